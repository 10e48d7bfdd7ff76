/-! CONTRACTS over views, calls, new objects and arrays. -/
def zP (D : va_G) (dA : Nat → ClassId) (z : Nat) (M : zVw) (U : State) : Prop := z ≤ U.heap.size ∧ zhv D kc M U.heap ∧ zhd z M ∧ va_K D kc (kt dA) U ∧ zX dA z U
def zQ (D : va_G) (dA : Nat → ClassId) (z : Nat) (post : Option Value → zVw → Prop) : Array Value → State → Outcome → State → Prop := fun _ st oc t => (∃ (v : Option Value) (M : zVw), oc = .returned v ∧ post v M ∧ zP D dA z M t) ∧ va_F (fun q => z ≤ q) st t
abbrev zR (fr lo mc ms : Nat) : Room := { frames := fr, cells := mc, slots := ms, locals := lo }
/-- the contract of a method: from the view M, with the arguments As, it returns v and leaves a view M' with 'post v M'' -/
def zMet (l : Launch) (y : MethodName) (cc : ByteArray) (maxL : Nat) (ret : Option FieldType) (fr lo mc ms : Nat) (D : va_G) (dA : Nat → ClassId) (z : Nat) (As : List Value) (M : zVw) (post : Option Value → zVw → Prop) : Prop :=
  Met l y (Cond.code y cc maxL ret :: tb) (zR fr lo mc ms) (fun a U => a = As.toArray ∧ zP D dA z M U) (zQ D dA z post) mc ms (fun q => z ≤ q)
def zrt : Nat → Option FieldType → Prop
  | 0, none => True
  | 1, some .int => True
  | 2, some .boolean => True
  | 3, some (.object _) => True
  | 3, some (.array _) => True
  | 4, some .long => True
  | _, _ => False
theorem z_nb {v : Int32} (h : v = 0 ∨ v = 1) : narrow .boolean (.int v) = .int v := by
  rcases h with rfl | rfl
  · decide +kernel
  · decide +kernel
theorem z_ret {p : Program} {l : Launch} {e : Env} {R : Room} {s : State} {m : MethodId} {args : Array Value} {below : List Frame} {meth : Method} {c : Code} {own : String} {cc : ByteArray} {nL z : Nat} {D : va_G} {dA : Nat → ClassId} {ini : Bool} {rt mc ms : Nat} {ret : Option FieldType} {post : Option Value → zVw → Prop}
    (C : zC p s m args meth c own cc nL z D dA ini) (hr : meth.sig.returnType = ret) (hrt : zrt rt ret) :
    zRet rt (zJ p l e R s m args below meth c (MQ below (zQ D dA z post) args s mc ms (fun q => z ≤ q)) nL z D) cc (fun v M k n => k ≤ mc ∧ n ≤ ms ∧ post v M) := by
  have hlocks : meth.locks = false := C.2.2.2.2.2.1
  have fin : ∀ {H : Heap} {locs : List Loc} {M : zVw} {t : State}, zhv D kc M H → zhd z M → va_S (fun q => z ≤ q) s.heap H locs → t.heap = H → s.WarmedH t.vm → zP D dA z M t := by
    intro H locs M t hv hz hS ht hW
    exact ⟨by rw [ht]; exact Nat.le_trans C.2.2.2.2.2.2.2.1 hS.1, by rw [ht]; exact hv, hz, va_K.moved hW.alike C.2.2.2.2.2.2.1, zX_to C.2.2.2.2.2.2.2.2.2 hW hS ht⟩
  refine ⟨?_, ?_, ?_, ?_⟩
  · intro v pc k n loc M hv1 hp hd H locs ls hv hz hS hl
    refine W.widen (k := mc) (n := ms) hp.1 hp.2.1 ?_
    have go : ∀ ty, ret = some ty → narrow ty (.int v) = .int v → W p l e R s m args below meth c H locs mc ms (MQ below (zQ D dA z post) args s mc ms (fun q => z ≤ q)) (F0 m pc ls [.int v]) := by
      intro ty hty hn
      exact W.zret (ty := ty) C.1 C.2.1 (hr.trans hty) hn (fun t ht hW => ⟨⟨_, M, rfl, hp.2.2, fin hv hz hS ht hW⟩, hS.F ht⟩) hS.2.2 hd hlocks
    match rt, ret, hrt, hv1 with
    | 1, some .int, _, _ => exact go .int rfl rfl
    | 2, some .boolean, _, h => exact go .boolean rfl (z_nb h)
  · intro o pc k n loc M h3 hp hd H locs ls hv hz hS hl
    refine W.widen (k := mc) (n := ms) hp.1 hp.2.1 ?_
    have go : ∀ ty, ret = some ty → ((∃ n, ty = .object n) ∨ ∃ t, ty = .array t) → W p l e R s m args below meth c H locs mc ms (MQ below (zQ D dA z post) args s mc ms (fun q => z ≤ q)) (F0 m pc ls [va_rf o]) := by
      intro ty hty hn
      exact W.aret C.1 C.2.1 (hr.trans hty) hn (by cases o with | none => exact Or.inl rfl | some a => exact Or.inr ⟨a, rfl⟩) (fun t ht hW => ⟨⟨_, M, rfl, hp.2.2, fin hv hz hS ht hW⟩, hS.F ht⟩) hS.2.2 hd hlocks
    subst h3
    match ret, hrt with
    | some (.object a), _ => exact go _ rfl (Or.inl ⟨_, rfl⟩)
    | some (.array a), _ => exact go _ rfl (Or.inr ⟨_, rfl⟩)
  · intro pc k n loc M h0 hp hd H locs ls hv hz hS hl
    refine W.widen (k := mc) (n := ms) hp.1 hp.2.1 ?_
    subst h0
    match ret, hrt with
    | none, _ => exact W.vret C.1 C.2.1 hr (fun t ht hW => ⟨⟨_, M, rfl, hp.2.2, fin hv hz hS ht hW⟩, hS.F ht⟩) hS.2.2 hd hlocks
  · intro v pc k n loc M h0 hp hd H locs ls hv hz hS hl
    refine W.widen (k := mc) (n := ms) hp.1 hp.2.1 ?_
    subst h0
    match ret, hrt with
    | some .long, _ => exact W.lret C.1 C.2.1 hr (fun t ht hW => ⟨⟨_, M, rfl, hp.2.2, fin hv hz hS ht hW⟩, hS.F ht⟩) hS.2.2 hd hlocks
/-- a contract out of the walk from its entry -/
theorem z_of {l : Launch} {y : MethodName} {cc : ByteArray} {maxL : Nat} {ret : Option FieldType} {fr lo mc ms : Nat} {D : va_G} {dA : Nat → ClassId} {z : Nat} {As : List Value} {M : zVw} {post : Option Value → zVw → Prop} (rt : Nat) (ini : Bool) (hy : plainName y.cls = true) (hini : ini = true → y.name = "<init>") (hlen : (lg_sl As).length ≤ maxL) (hrt : zrt rt ret)
    (body : ∀ (p : Program) (e : Env) (s : State) (m : MethodId) (args : Array Value) (below : List Frame) (meth : Method) (c : Code), zC p s m args meth c y.cls cc maxL z D dA ini →
      zRet rt (zJ p l e (zR fr lo mc ms) s m args below meth c (MQ below (zQ D dA z post) args s mc ms (fun q => z ≤ q)) maxL z D) cc (fun v M k n => k ≤ mc ∧ n ≤ ms ∧ post v M) →
      zJ p l e (zR fr lo mc ms) s m args below meth c (MQ below (zQ D dA z post) args s mc ms (fun q => z ≤ q)) maxL z D 0 (lv_args 0 As) [] M 0 0) : zMet l y cc maxL ret fr lo mc ms D dA z As M post := by
  refine Met.ofW (cc := cc) (maxL := maxL) (ret := ret) hy rfl ?_
  intro p e s m args below meth c s₁ B hml hv
  obtain ⟨rfl, hz, hv, hd, hK, hX⟩ := hv
  have hts := atoms_spec (ws := Cond.code y cc maxL ret :: tb) B.pre
  have C : zC p s m As.toArray meth c y.cls cc maxL z D dA ini := ⟨B.exec, B.bytes, hml, findClass_of_methodNamed B.named, fun w hw => hts w (List.mem_cons_of_mem _ hw), B.notSynchronized, hK, hz, fun hi => (name_of_methodNamed B.named B.method).1.trans (hini hi), hX⟩
  have hl := lv_entry As (n := maxL) hlen
  rw [lg_entry_eq]
  exact body p e s m As.toArray below meth c C (z_ret C B.returns hrt) s.heap [] _ hv hd va_S.rf hl
section ZCALL
variable {p : Program} {l : Launch} {e : Env} {R : Room} {s : State} {m : MethodId} {args : Array Value} {below : List Frame} {meth : Method} {c : Code} {Q : State → Prop} {own : String} {cc : ByteArray} {nL z : Nat} {D : va_G} {dA : Nat → ClassId} {ini : Bool} {pc k n x : Nat} {loc : List (Nat × Value)} {M : zVw} {st rest As : List Value} {y : MethodName} {cc' : ByteArray} {maxL fr lo mc ms : Nat} {ret : Option FieldType} {post : Option Value → zVw → Prop}
theorem z_good (hc : Cond.code y cc' maxL ret ∈ tb) : GoodIn tb (Cond.code y cc' maxL ret :: tb) := by
  intro w hw
  have hm : w ∈ tb := by
    rcases List.mem_cons.mp hw with rfl | h
    · exact hc
    · exact h
  exact ⟨hm, good_of_word (tb_good w hm)⟩
theorem z_blind : FrameBlind (fun a U => a = As.toArray ∧ zP D dA z M U) := fun a U g mk q => by
  obtain ⟨q0, q1, q2, q3, q4, q5⟩ := q
  exact ⟨q0, q1, q2, q3, va_K.moved (u := U) (U := U.calling g mk a) (Vm.Alike.refl U.vm) q4, zX_same (t := U.calling g mk a) q5 rfl rfl⟩
theorem z_pre {H : Heap} {locs : List Loc} (C : zC p s m args meth c own cc nL z D dA ini) (hv : zhv D kc M H) (hz : zhd z M) (hS : va_S (fun q => z ≤ q) s.heap H locs) : ∀ U : State, U.heap = H → s.WarmedH U.vm → (As.toArray = As.toArray ∧ zP D dA z M U) := fun U hU hW =>
  ⟨rfl, by rw [hU]; exact Nat.le_trans C.2.2.2.2.2.2.2.1 hS.1, by rw [hU]; exact hv, hz, va_K.moved hW.alike C.2.2.2.2.2.2.1, zX_to C.2.2.2.2.2.2.2.2.2 hW hS hU⟩
/-- behind a call -/
theorem z_after {H : Heap} {locs : List Loc} {ls : Array Slot} {a : Array Value} (hr : va_Run p l e R s m args below meth c H locs k n mc ms (F0 m pc ls st) rest (zQ D dA z post a) (fun q => z ≤ q)) (hS : va_S (fun q => z ≤ q) s.heap H locs) (hl : lv_has ls nL loc)
    (kk : ∀ (v : Option Value) (M' : zVw), post v M' → zJ p l e R s m args below meth c Q nL z D (pc + 3) loc (v.toList ++ rest) M' (k + mc) (n + ms)) : W p l e R s m args below meth c H locs k n Q (F0 m pc ls st) := by
  intro T hT X
  obtain ⟨v, st₀, t, T', L, h0, X', hL, e1, e2, ⟨⟨v', M', hv', hpost, hz', hvt, hdt, hKt, hXt⟩, hz1, hk1⟩, stp⟩ := hr T hT X
  cases hv'
  rw [h0] at hz1 hk1
  obtain ⟨t2, a1, b1⟩ := kk v M' hpost T'.heap (locs ++ L) ls (by rw [e1]; exact hvt) hdt ⟨Nat.le_trans hS.1 (by rw [e1]; exact hz1), fun q h1 h2 => by rw [e1, hk1 q (Nat.lt_of_lt_of_le h1 hS.1) h2]; exact hS.2.1 q h1 h2, fun q hq => by
      rcases List.mem_append.mp hq with h | h
      · exact hS.2.2 q h
      · exact hL q h⟩ hl T' rfl X'
  exact ⟨t2, stp t2 a1, b1⟩
/-- what a call's numbers and words are: decided once a call -/
def zcb (own : String) (x : Nat) (y : MethodName) (cc' : ByteArray) (maxL : Nat) (ret : Option FieldType) (na : Nat) : Prop :=
  Cond.code y cc' maxL ret ∈ tb ∧ Cond.initialized y.cls ∈ tb ∧ Cond.methodLink own x y ∈ tb ∧ y.cls ≠ "java/lang/invoke/MethodHandle" ∧ y.cls ≠ "java/lang/invoke/VarHandle" ∧ (parseMethodDescriptor y.desc).map (fun d => d.parameters.length) = some na
theorem z_cb {na : Nat} (C : zC p s m args meth c own cc nL z D dA ini) (h : zcb own x y cc' maxL ret na) (hroom : fr + 1 ≤ R.frames ∧ 8 + (maxL + 11) + lo ≤ R.locals) : CallB R s args own x y cc' maxL ret (Cond.code y cc' maxL ret :: tb) (zR fr lo mc ms) mc ms na :=
  callB_of na C.2.2.2.2.1 (z_good h.1) rfl rfl rfl (C.2.2.2.2.1 _ h.2.1) (C.2.2.2.2.1 _ h.2.2.1) h.2.2.2 hroom
theorem zJ_callV {b ci : Nat} {fs : List Value} {r : vw_C} (C : zC p s m args meth c own cc nL z D dA ini) (hd : decode cc pc = .ok (.invokevirtual x, 3)) (hm : zMet l y cc' maxL ret fr lo mc ms D dA z (.ref b :: As) M post) (hw : zcb own x y cc' maxL ret As.length) (hi : Cond.instanceMethod y ∈ tb) (hs : Cond.selects y.cls y y ∈ tb)
    (hb : M b = some (.inr (ci, fs))) (hc : kc[ci]? = some r) (hry : r.1 = y.cls) (hroom : fr + 1 ≤ R.frames ∧ 8 + (maxL + 11) + lo ≤ R.locals) (hcs : k + mc ≤ R.cells ∧ n + ms ≤ R.slots) (hst : st = As.reverse ++ .ref b :: rest) (hcat : (rest.map fun v => v.category).sum ≤ 8)
    (kk : ∀ (v : Option Value) (M' : zVw), post v M' → zJ p l e R s m args below meth c Q nL z D (pc + 3) loc (v.toList ++ rest) M' (k + mc) (n + ms)) : zJ p l e R s m args below meth c Q nL z D pc loc st M k n := by
  intro H locs ls hv hz hS hl
  obtain ⟨ws, hP, hD, hin, -⟩ := zv_ws hv hz
  obtain ⟨j, hj⟩ := hin b _ hb
  have hrec := va_recv C.2.2.2.2.2.2.1 hP hc hj
  rw [hry] at hrec
  exact z_after (va_runV (As := As) (rest := rest) ⟨C.1, C.2.1, C.2.2.1, C.2.2.2.1, C.2.2.2.2.1⟩ hm ⟨z_cb C hw hroom, C.2.2.2.2.1 _ hi, C.2.2.2.2.1 _ hs⟩ ⟨z_blind, hrec, z_pre C hv hz hS⟩ rfl rfl hl.1 hst (lv_room hcat) hd hcs) hS hl kk
theorem zJ_callS (C : zC p s m args meth c own cc nL z D dA ini) (hd : decode cc pc = .ok (.invokestatic x, 3)) (hm : zMet l y cc' maxL ret fr lo mc ms D dA z As M post) (hw : zcb own x y cc' maxL ret As.length) (hi : Cond.static y ∈ tb)
    (hroom : fr + 1 ≤ R.frames ∧ 8 + (maxL + 11) + lo ≤ R.locals) (hcs : k + mc ≤ R.cells ∧ n + ms ≤ R.slots) (hst : st = As.reverse ++ rest) (hcat : (rest.map fun v => v.category).sum ≤ 8)
    (kk : ∀ (v : Option Value) (M' : zVw), post v M' → zJ p l e R s m args below meth c Q nL z D (pc + 3) loc (v.toList ++ rest) M' (k + mc) (n + ms)) : zJ p l e R s m args below meth c Q nL z D pc loc st M k n := by
  intro H locs ls hv hz hS hl
  exact z_after (va_runS (As := As) (rest := rest) ⟨C.1, C.2.1, C.2.2.1, C.2.2.2.1, C.2.2.2.2.1⟩ hm ⟨z_cb C hw hroom, C.2.2.2.2.1 _ hi⟩ ⟨z_blind, z_pre C hv hz hS⟩ rfl rfl hl.1 hst (lv_room hcat) hd hcs) hS hl kk
theorem zJ_callI {b : Nat} (C : zC p s m args meth c own cc nL z D dA ini) (hd : decode cc pc = .ok (.invokespecial x, 3)) (hm : zMet l y cc' maxL none fr lo mc ms D dA z (.ref b :: As) M post) (hw : zcb own x y cc' maxL none As.length) (hi : Cond.instanceMethod y ∈ tb) (hn : y.name = "<init>")
    (hroom : fr + 1 ≤ R.frames ∧ 8 + (maxL + 11) + lo ≤ R.locals) (hcs : k + mc ≤ R.cells ∧ n + ms ≤ R.slots) (hst : st = As.reverse ++ .ref b :: rest) (hcat : (rest.map fun v => v.category).sum ≤ 8)
    (kk : ∀ (v : Option Value) (M' : zVw), post v M' → zJ p l e R s m args below meth c Q nL z D (pc + 3) loc (v.toList ++ rest) M' (k + mc) (n + ms)) : zJ p l e R s m args below meth c Q nL z D pc loc st M k n := by
  intro H locs ls hv hz hS hl
  exact z_after (va_runI (As := As) (rest := rest) ⟨C.1, C.2.1, C.2.2.1, C.2.2.2.1, C.2.2.2.2.1⟩ hm ⟨z_cb C hw hroom, hn, C.2.2.2.2.1 _ hi⟩ ⟨z_blind, z_pre C hv hz hS⟩ rfl rfl hl.1 hst (lv_room hcat) hd hcs) hS hl kk
/-- the same of a private method of a nest mate -/
def zcn (own : String) (x : Nat) (y : MethodName) (host : String) (cc' : ByteArray) (maxL : Nat) (ret : Option FieldType) (na : Nat) : Prop :=
  Cond.code y cc' maxL ret ∈ tb ∧ Cond.initialized y.cls ∈ tb ∧ Cond.methodLinkNest own x y host ∈ tx ∧ y.cls ≠ "java/lang/invoke/MethodHandle" ∧ y.cls ≠ "java/lang/invoke/VarHandle" ∧ (parseMethodDescriptor y.desc).map (fun d => d.parameters.length) = some na
theorem z_cn {na : Nat} {host : String} (C : zC p s m args meth c own cc nL z D dA ini) (h : zcn own x y host cc' maxL ret na) (hroom : fr + 1 ≤ R.frames ∧ 8 + (maxL + 11) + lo ≤ R.locals) : va_CN R s args own x y host cc' maxL ret (Cond.code y cc' maxL ret :: tb) (zR fr lo mc ms) mc ms na :=
  va_cnB na C.2.2.2.2.1 (z_good h.1) rfl rfl rfl (C.2.2.2.2.2.2.2.2.2.2.2.2.1 _ h.2.2.1) (C.2.2.2.2.1 _ h.2.1) h.2.2.2 hroom
theorem zJ_callIN {b : Nat} {host : String} (C : zC p s m args meth c own cc nL z D dA ini) (hd : decode cc pc = .ok (.invokespecial x, 3)) (hm : zMet l y cc' maxL none fr lo mc ms D dA z (.ref b :: As) M post) (hw : zcn own x y host cc' maxL none As.length) (hi : Cond.instanceMethod y ∈ tb) (hn : y.name = "<init>")
    (hroom : fr + 1 ≤ R.frames ∧ 8 + (maxL + 11) + lo ≤ R.locals) (hcs : k + mc ≤ R.cells ∧ n + ms ≤ R.slots) (hst : st = As.reverse ++ .ref b :: rest) (hcat : (rest.map fun v => v.category).sum ≤ 8)
    (kk : ∀ (v : Option Value) (M' : zVw), post v M' → zJ p l e R s m args below meth c Q nL z D (pc + 3) loc (v.toList ++ rest) M' (k + mc) (n + ms)) : zJ p l e R s m args below meth c Q nL z D pc loc st M k n := by
  intro H locs ls hv hz hS hl
  exact z_after (va_runIN (As := As) (rest := rest) ⟨C.1, C.2.1, C.2.2.1, C.2.2.2.1, C.2.2.2.2.1⟩ hm ⟨z_cn C hw hroom, hn, C.2.2.2.2.1 _ hi⟩ ⟨z_blind, z_pre C hv hz hS⟩ rfl rfl hl.1 hst (lv_room hcat) hd hcs) hS hl kk
/-- Object's constructor -/
theorem zJ_obj {a : Nat} (C : zC p s m args meth c own cc nL z D dA ini) (hd : decode cc pc = .ok (.invokespecial x, 3)) (h1 : Cond.methodLink own x objectInit ∈ tb) (h2 : Cond.instanceMethod objectInit ∈ tb) (h3 : Cond.code objectInit ⟨#[0xb1]⟩ 1 none ∈ tb) (hf : 1 ≤ R.frames) (hlo : (rest.map fun v => v.category).sum + 12 ≤ R.locals)
    (kk : zJ p l e R s m args below meth c Q nL z D (pc + 3) loc rest M k n) : zJ p l e R s m args below meth c Q nL z D pc loc (.ref a :: rest) M k n := by
  intro H locs ls hv hz hS hl
  refine W.objInit C.1 C.2.1 C.2.2.2.1 (C.2.2.2.2.1 _ h1) (C.2.2.2.2.1 _ h2) (C.2.2.2.2.1 _ h3) rfl (by rw [C.2.2.1]; exact hl.1) rfl hd hf ?_ (W.eq (g2 := F0 m (pc + 3) ls rest) rfl (kk H locs ls hv hz hS hl))
  show 2 * 0 + _ + 12 ≤ _
  omega
/-- a class of the list: its words and fields -/
def zcl (ci : Nat) (r : vw_C) (ty : Nat → FieldType) : Prop := kc[ci]? = some r ∧ (∀ w ∈ u_ws r.1 r.2.1 r.2.2, w ∈ tb) ∧ (∀ j, j < r.2.2 → parseFieldDescriptor (r.2.1 j).2.2.1 = some (ty j)) ∧ Cond.instantiable r.1 r.2.2 ∈ tb ∧ Cond.initialized r.1 ∈ tb
theorem zJ_new {ci : Nat} {r : vw_C} {ty : Nat → FieldType} (fs : List Value) (C : zC p s m args meth c own cc nL z D dA ini) (hc : zcl ci r ty) (hd : decode cc pc = .ok (.new x, 3)) (hl0 : Cond.classLink own x r.1 ∈ tb) (hfs : ∀ j, j < r.2.2 → defaultValue (ty j) = vp_V fs j) (hcs : k + 1 ≤ R.cells ∧ n + r.2.2 ≤ R.slots)
    (kk : ∀ q : Nat, M q = none → z ≤ q → zJ p l e R s m args below meth c Q nL z D (pc + 3) loc (.ref q :: st) (zu M q (.inr (ci, fs))) (k + 1) (n + r.2.2)) : zJ p l e R s m args below meth c Q nL z D pc loc st M k n := by
  intro H locs ls hv hz hS hl
  obtain ⟨ws, hP, hD, hin, hset, hpush, hfr, -⟩ := zv_ws hv hz
  refine va_new (ci := ci) (fs := fs) (C := r.1) (T := r.2.1) (N := r.2.2) C.1 C.2.1 C.2.2.2.2.1 hc.2.1 ty hc.2.2.1 C.2.2.2.1 (C.2.2.2.2.1 _ hl0) (C.2.2.2.2.1 _ hc.2.2.2.1) (C.2.2.2.2.1 _ hc.2.2.2.2) C.2.2.2.2.2.2.1 hP hD hS (fun q h => Nat.le_trans C.2.2.2.2.2.2.2.1 h) hc.1 hfs hcs.1 hcs.2 hd (fun q H1 hP1 hD1 hS1 => ?_)
  obtain ⟨h1, h2⟩ := hfr q _ hD1
  exact kk q h1 h2 H1 locs ls (hpush q _ H1 hP1) (zhd_u hz h2) hS1 hl
/-- a new array of ints -/
theorem zJ_newI {i : Int32} {N : Nat} (C : zC p s m args meth c own cc nL z D dA ini) (hd : decode cc pc = .ok (.newarray .int, 2)) (hw : Cond.arrayClass .int ∈ tb) (hi : i = nI N) (hN : N < 1000000) (hcs : k + 1 ≤ R.cells ∧ n + N ≤ R.slots)
    (kk : ∀ q : Nat, M q = none → z ≤ q → zJ p l e R s m args below meth c Q nL z D (pc + 2) loc (.ref q :: rest) (zu M q (.inl (dA 0, N, .inl (fun _ => 0)))) (k + 1) (n + N)) : zJ p l e R s m args below meth c Q nL z D pc loc (.int i :: rest) M k n := by
  intro H locs ls hv hz hS hl
  subst hi
  obtain ⟨ws, hP, hD, hin, hset, hpush, hfr, -⟩ := zv_ws hv hz
  refine va_newa (atype := .int) (ty := .int) (a0 := (N, .inl (fun _ => 0))) (N' := N) C.1 C.2.1 (C.2.2.2.2.1 _ hw) rfl C.2.2.2.2.2.2.1 hP hD hS (fun q h => Nat.le_trans C.2.2.2.2.2.2.2.1 h) (fun cA => rfl) (nI_pos (by omega)) (nI_clamp (by omega)) (by show N * 4 ≤ _; omega) hcs.1 hcs.2 hd (fun q cA H1 hK1 hP1 hD1 hS1 => ?_)
  obtain ⟨h1, h2⟩ := hfr q _ hD1
  have e1 : cA = dA 0 := by
    have a1 : s.vm.findClass ("[" ++ FieldType.int.toString) = some cA := (hK1.2 (kt dA).length (cA, .int) (by rw [List.getElem?_append_right (Nat.le_refl _), Nat.sub_self]; rfl)).2
    have a2 : s.vm.findClass ("[" ++ FieldType.int.toString) = some (dA 0) := (C.2.2.2.2.2.2.1.2 0 (dA 0, .int) rfl).2
    exact Option.some.inj (a1.symm.trans a2)
  subst e1
  exact kk q h1 h2 H1 locs ls (hpush q _ H1 hP1) (zhd_u hz h2) hS1 hl
/-- a new array of longs -/
theorem zJ_newL {i : Int32} {N : Nat} (C : zC p s m args meth c own cc nL z D dA ini) (hd : decode cc pc = .ok (.newarray .long, 2)) (hw : Cond.arrayClass .long ∈ tb) (hi : i = nI N) (hN : N < 1000000) (hcs : k + 1 ≤ R.cells ∧ n + N ≤ R.slots)
    (kk : ∀ q : Nat, M q = none → z ≤ q → zJ p l e R s m args below meth c Q nL z D (pc + 2) loc (.ref q :: rest) (zu M q (.inl (dA 3, N, .inr (.inl (fun _ => 0))))) (k + 1) (n + N)) : zJ p l e R s m args below meth c Q nL z D pc loc (.int i :: rest) M k n := by
  intro H locs ls hv hz hS hl
  subst hi
  obtain ⟨ws, hP, hD, hin, hset, hpush, hfr, -⟩ := zv_ws hv hz
  refine va_newa (atype := .long) (ty := .long) (a0 := (N, .inr (.inl (fun _ => 0)))) (N' := N) C.1 C.2.1 (C.2.2.2.2.1 _ hw) rfl C.2.2.2.2.2.2.1 hP hD hS (fun q h => Nat.le_trans C.2.2.2.2.2.2.2.1 h) (fun cA => rfl) (nI_pos (by omega)) (nI_clamp (by omega)) (by show N * 8 ≤ _; omega) hcs.1 hcs.2 hd (fun q cA H1 hK1 hP1 hD1 hS1 => ?_)
  obtain ⟨h1, h2⟩ := hfr q _ hD1
  have e1 : cA = dA 3 := by
    have a1 : s.vm.findClass ("[" ++ FieldType.long.toString) = some cA := (hK1.2 (kt dA).length (cA, .long) (by rw [List.getElem?_append_right (Nat.le_refl _), Nat.sub_self]; rfl)).2
    have a2 : s.vm.findClass ("[" ++ FieldType.long.toString) = some (dA 3) := (C.2.2.2.2.2.2.1.2 3 (dA 3, .long) rfl).2
    exact Option.some.inj (a1.symm.trans a2)
  subst e1
  exact kk q h1 h2 H1 locs ls (hpush q _ H1 hP1) (zhd_u hz h2) hS1 hl
/-- a new array of booleans -/
theorem zJ_newZ {i : Int32} {N : Nat} (C : zC p s m args meth c own cc nL z D dA ini) (hd : decode cc pc = .ok (.newarray .boolean, 2)) (hw : Cond.arrayClass .boolean ∈ tb) (hi : i = nI N) (hN : N < 1000000) (hcs : k + 1 ≤ R.cells ∧ n + N ≤ R.slots)
    (kk : ∀ q : Nat, M q = none → z ≤ q → zJ p l e R s m args below meth c Q nL z D (pc + 2) loc (.ref q :: rest) (zu M q (.inl (dA 4, N, .inl (fun _ => 0)))) (k + 1) (n + N)) : zJ p l e R s m args below meth c Q nL z D pc loc (.int i :: rest) M k n := by
  intro H locs ls hv hz hS hl
  subst hi
  obtain ⟨ws, hP, hD, hin, hset, hpush, hfr, -⟩ := zv_ws hv hz
  refine va_newa (atype := .boolean) (ty := .boolean) (a0 := (N, .inl (fun _ => 0))) (N' := N) C.1 C.2.1 (C.2.2.2.2.1 _ hw) rfl C.2.2.2.2.2.2.1 hP hD hS (fun q h => Nat.le_trans C.2.2.2.2.2.2.2.1 h) (fun cA => rfl) (nI_pos (by omega)) (nI_clamp (by omega)) (by show N * 1 ≤ _; omega) hcs.1 hcs.2 hd (fun q cA H1 hK1 hP1 hD1 hS1 => ?_)
  obtain ⟨h1, h2⟩ := hfr q _ hD1
  have e1 : cA = dA 4 := by
    have a1 : s.vm.findClass ("[" ++ FieldType.boolean.toString) = some cA := (hK1.2 (kt dA).length (cA, .boolean) (by rw [List.getElem?_append_right (Nat.le_refl _), Nat.sub_self]; rfl)).2
    have a2 : s.vm.findClass ("[" ++ FieldType.boolean.toString) = some (dA 4) := (C.2.2.2.2.2.2.1.2 4 (dA 4, .boolean) rfl).2
    exact Option.some.inj (a1.symm.trans a2)
  subst e1
  exact kk q h1 h2 H1 locs ls (hpush q _ H1 hP1) (zhd_u hz h2) hS1 hl
/-- a new array of references -/
theorem zJ_newQ {i : Int32} {N t : Nat} {C0 : String} (C : zC p s m args meth c own cc nL z D dA ini) (hd : decode cc pc = .ok (.anewarray x, 3)) (hw : Cond.classLink own x C0 ∈ tb) (hw2 : va_AO C0 s) (ht : (kt dA)[t]? = some (dA t, .object C0)) (hi : i = nI N) (hN : N < 1000000) (hcs : k + 1 ≤ R.cells ∧ n + N ≤ R.slots)
    (kk : ∀ q : Nat, M q = none → z ≤ q → zJ p l e R s m args below meth c Q nL z D (pc + 3) loc (.ref q :: rest) (zu M q (.inl (dA t, N, .inr (.inr (.inr (.inr (fun _ => none))))))) (k + 1) (n + N)) : zJ p l e R s m args below meth c Q nL z D pc loc (.int i :: rest) M k n := by
  intro H locs ls hv hz hS hl
  subst hi
  obtain ⟨ws, hP, hD, hin, hset, hpush, hfr, -⟩ := zv_ws hv hz
  refine va_newq (C := C0) (N' := N) C.1 C.2.1 C.2.2.2.1 (C.2.2.2.2.1 _ hw) hw2 C.2.2.2.2.2.2.1 hP hD hS (fun q h => Nat.le_trans C.2.2.2.2.2.2.2.1 h) (nI_pos (by omega)) (nI_clamp (by omega)) (by omega) hcs.1 hcs.2 hd (fun q cA H1 hK1 hP1 hD1 hS1 => ?_)
  obtain ⟨h1, h2⟩ := hfr q _ hD1
  have e1 : cA = dA t := by
    obtain ⟨_, _, _, _, _, a1⟩ := (hK1.2 (kt dA).length (cA, .object C0) (by rw [List.getElem?_append_right (Nat.le_refl _), Nat.sub_self]; rfl)).2
    obtain ⟨_, _, _, _, _, a2⟩ := (C.2.2.2.2.2.2.1.2 t (dA t, .object C0) ht).2
    exact Option.some.inj (a1.symm.trans a2)
  subst e1
  exact kk q h1 h2 H1 locs ls (hpush q _ H1 hP1) (zhd_u hz h2) hS1 hl
/-- a cast of an object of the list's class -/
theorem zJ_cast {a ci : Nat} {fs : List Value} {r : vw_C} {nm : String} (C : zC p s m args meth c own cc nL z D dA ini) (hd : decode cc pc = .ok (.checkcast x, 3)) (hw : Cond.classLink own x nm ∈ tb) (hc : kc[ci]? = some r) (hn : r.1 = nm) (ha : M a = some (.inr (ci, fs)))
    (kk : zJ p l e R s m args below meth c Q nL z D (pc + 3) loc (.ref a :: rest) M k n) : zJ p l e R s m args below meth c Q nL z D pc loc (.ref a :: rest) M k n := by
  intro H locs ls hv hz hS hl
  obtain ⟨ws, hP, hD, hin, -⟩ := zv_ws hv hz
  obtain ⟨j, hj⟩ := hin a _ ha
  have hrec := va_recv C.2.2.2.2.2.2.1 hP hc hj
  subst hn
  exact va_castS C.1 C.2.1 C.2.2.2.1 (C.2.2.2.2.1 _ hw) (C.2.2.2.2.2.2.1.1 ci r hc).2 hrec hd (kk H locs ls hv hz hS hl)
/-- a store of an object into an array of its own class, or of Object -/
theorem zJ_aast {a v t nn ci : Nat} {i : Int32} {g : Nat → Option Nat} {cA : ClassId} {fs : List Value} {r : vw_C} {E : String} (C : zC p s m args meth c own cc nL z D dA ini) (hd : decode cc pc = .ok (.aastore, 1)) (ha : M a = some (.inl (cA, nn, .inr (.inr (.inr (.inr g)))))) (ht : (kt dA)[t]? = some (cA, .object E)) (hv0 : M v = some (.inr (ci, fs))) (hc : kc[ci]? = some r) (hE : r.1 = E ∨ Cond.castable r.1 E ∈ tx) (hi : vp_in i nn)
    (kk : zJ p l e R s m args below meth c Q nL z D (pc + 1) loc rest (zu M a (.inl (cA, nn, .inr (.inr (.inr (.inr (va_up g i.toNatClampNeg (some v)))))))) k n) : zJ p l e R s m args below meth c Q nL z D pc loc (.ref v :: .int i :: .ref a :: rest) M k n := by
  intro H locs ls hv hz hS hl
  obtain ⟨ws, hP, hD, hin, hset, -⟩ := zv_ws hv hz
  obtain ⟨j, hj⟩ := hin a _ ha
  obtain ⟨j2, hj2⟩ := hin v _ hv0
  rcases hE with hE | hE
  · subst hE
    exact va_astq C.1 C.2.1 C.2.2.2.2.2.2.1 hP hD hS j t j2 ci hj ht hj2 hc hi hd (fun H1 locs1 hP1 hD1 hS1 => kk H1 locs1 ls (hset j a _ _ H1 hj hP1) (zhd_u hz (hz a _ ha)) hS1 hl)
  · exact va_astqO C.1 C.2.1 C.2.2.2.2.2.2.1 hP hD hS j t j2 ci hj ht (C.2.2.2.2.2.2.2.2.2.2.2.2.1 _ hE) hj2 hc hi hd (fun H1 locs1 hP1 hD1 hS1 => kk H1 locs1 ls (hset j a _ _ H1 hj hP1) (zhd_u hz (hz a _ ha)) hS1 hl)
/-- fewer locals, in any order; another count of cells -/
theorem zJ_loc {loc' : List (Nat × Value)} (h : ∀ q ∈ loc', q ∈ loc) (kk : zJ p l e R s m args below meth c Q nL z D pc loc' st M k n) : zJ p l e R s m args below meth c Q nL z D pc loc st M k n :=
  fun H locs ls hv hz hS hl => kk H locs ls hv hz hS ⟨hl.1, hl.2.1, fun q hq => hl.2.2 q (h q hq)⟩
theorem zJ_wide {k' n' : Nat} (h1 : k ≤ k') (h2 : n ≤ n') (kk : zJ p l e R s m args below meth c Q nL z D pc loc st M k' n') : zJ p l e R s m args below meth c Q nL z D pc loc st M k n :=
  fun H locs ls hv hz hS hl => W.widen h1 h2 (kk H locs ls hv hz hS hl)
end ZCALL
