/-! THE JUDGEMENT over views (zJ), and a program that walks straight code and branches (zseg): what it leaves is pure. Written by wip/whole/genseg.py. -/
abbrev zK : Type := Nat → List (Nat × Value) → List Value → zVw → Nat → Nat → Prop
def zJ (p : Program) (l : Launch) (e : Env) (R : Room) (s : State) (m : MethodId) (args : Array Value) (below : List Frame) (meth : Method) (c : Code) (Q : State → Prop) (nL z : Nat) (D : va_G) : zK := fun pc loc st M k n =>
  ∀ (H : Heap) (locs : List Loc) (ls : Array Slot), zhv D kc M H → zhd z M → va_S (fun q => z ≤ q) s.heap H locs → lv_has ls nL loc → W p l e R s m args below meth c H locs k n Q (F0 m pc ls st)
/-- words that are moved one by one -/
def zNk : Cond → Bool
  | .methodLinkNest .. => true
  | .castable .. => true
  | .declares _ => true
  | _ => false
theorem zNk_warm {w : Cond} {s U : State} (hk : zNk w = true) (hW : s.WarmedH U.vm) (h : va_Nw w s) : va_Nw w U := by
  cases w <;> first | exact va_Nw.warmM hW h | exact va_Nw.warmC hW h | exact va_Nw.warmD hW h | cases hk
theorem zNk_on {w : Cond} (hk : zNk w = true) : w.onTables = true := by
  cases w <;> first | rfl | cases hk
theorem tx_k : ∀ w ∈ tx, zNk w = true := by
  have h : tx.all zNk = true := by decide +kernel
  exact fun w hw => List.all_eq_true.mp h w hw
/-- what the start gives of things that nobody writes: the empty array of ArrayList (its address: dA 100), the mirror of Object[] (dA 101), the words of tx -/
def zX (dA : Nat → ClassId) (z : Nat) (U : State) : Prop := va_Z "java/util/ArrayList" "DEFAULTCAPACITY_EMPTY_ELEMENTDATA" "[Ljava/lang/Object;" (.ref (dA 100)) (fun q => z ≤ q) U U.heap ∧ va_T (.object "java/lang/Object") (dA 100) 0 (fun _ => .null) (fun q => z ≤ q) U U.heap ∧ va_Mi "[Ljava/lang/Object;" (dA 101) U ∧ (∀ w ∈ tx, va_Nw w U) ∧ va_AO "DoorActs$Device" U ∧ va_AO "java/lang/Object" U
theorem zX_to {dA : Nat → ClassId} {z : Nat} {s t : State} {H : Heap} {locs : List Loc} (h : zX dA z s) (hW : s.WarmedH t.vm) (hS : va_S (fun q => z ≤ q) s.heap H locs) (ht : t.heap = H) : zX dA z t := by
  subst ht
  exact ⟨(h.1.kept (fun a h1 h2 => hS.2.1 a h1 h2)).moved hW.alike, (h.2.1.kept (fun a h1 h2 => hS.2.1 a h1 h2)).moved hW.alike, h.2.2.1.moved hW.alike, fun w hw => zNk_warm (tx_k w hw) hW (h.2.2.2.1 w hw), h.2.2.2.2.1.moved hW.alike, h.2.2.2.2.2.moved hW.alike⟩
theorem zX_same {dA : Nat → ClassId} {z : Nat} {s t : State} (h : zX dA z s) (hvm : s.vm = t.vm) (ht : t.heap = s.heap) : zX dA z t := by
  have ha : s.vm.Alike t.vm := by rw [hvm]; exact Vm.Alike.refl _
  refine ⟨?_, ?_, h.2.2.1.moved ha, fun w hw => va_Nw.same (zNk_on (tx_k w hw)) hvm (h.2.2.2.1 w hw), h.2.2.2.2.1.moved ha, h.2.2.2.2.2.moved ha⟩
  · rw [ht]; exact h.1.moved ha
  · rw [ht]; exact h.2.1.moved ha
def zC (p : Program) (s : State) (m : MethodId) (args : Array Value) (meth : Method) (c : Code) (own : String) (cc : ByteArray) (nL z : Nat) (D : va_G) (dA : Nat → ClassId) (ini : Bool) : Prop :=
  p.tables.exec = Jvm.exec ∧ c.code = cc ∧ c.maxLocals = nL ∧ s.vm.findClass own = some m.cls ∧ (∀ w ∈ tb, w.before args s = true) ∧ meth.locks = false ∧ va_K D kc (kt dA) s ∧ z ≤ s.heap.size ∧ (ini = true → meth.name = "<init>") ∧ zX dA z s
/-- locals -/
def zlg : List (Nat × Value) → Nat → Option Value
  | [], _ => none
  | (j, v) :: l, i => bif j == i then some v else zlg l i
def zw (v : Value) : Bool := v.category == 2
def zlr : List (Nat × Value) → Nat → List (Nat × Value)
  | [], _ => []
  | (j, v) :: l, i => bif j == i || (j + 1 == i && zw v) then zlr l i else (j, v) :: zlr l i
theorem zlg_at {ls : Array Slot} {nL : Nat} : ∀ {loc : List (Nat × Value)} {i : Nat} {v : Value}, lv_has ls nL loc → zlg loc i = some v → ls[i]? = some (.val v)
  | [], i, v, _, h => by simp [zlg] at h
  | (j, w) :: loc, i, v, hl, h => by
    unfold zlg at h
    cases hj : (j == i) with
    | true =>
      rw [hj] at h
      have e1 : j = i := by simpa using hj
      cases h
      subst e1
      exact hl.2.2 (j, w) List.mem_cons_self
    | false =>
      rw [hj] at h
      exact zlg_at (loc := loc) ⟨hl.1, hl.2.1, fun q hq => hl.2.2 q (List.mem_cons_of_mem _ hq)⟩ h
theorem zlr_eq : ∀ (loc : List (Nat × Value)) (i : Nat), loc.filter (fun q => !(q.1 == i) && !(q.1 + 1 == i && q.2.category == 2)) = zlr loc i
  | [], i => rfl
  | (j, v) :: l, i => by
    unfold zlr
    rw [← zlr_eq l i]
    unfold zw
    cases h1 : (j == i) <;> cases h2 : (j + 1 == i) <;> cases h3 : (v.category == 2) <;> simp [List.filter_cons, h1, h2, h3]
def zl2 : List (Nat × Value) → Nat → List (Nat × Value)
  | [], _ => []
  | (j, v) :: l, i => bif j == i || (j == i + 1 || (j + 1 == i && zw v)) then zl2 l i else (j, v) :: zl2 l i
theorem zl2_eq : ∀ (loc : List (Nat × Value)) (i : Nat), loc.filter (fun q => !(q.1 == i) && (!(q.1 == i + 1) && !(q.1 + 1 == i && q.2.category == 2))) = zl2 loc i
  | [], i => rfl
  | (j, v) :: l, i => by
    unfold zl2
    rw [← zl2_eq l i]
    unfold zw
    cases h1 : (j == i) <;> cases h4 : (j == i + 1) <;> cases h2 : (j + 1 == i) <;> cases h3 : (v.category == 2) <;> simp [List.filter_cons, h1, h2, h3, h4]
/-- options -/
def zvo : Option Value → Value
  | some v => v
  | none => .null
def zso : Option Value → Bool
  | some _ => true
  | none => false
def zsI : Option Value → Bool
  | some (.int _) => true
  | _ => false
def zsL : Option Value → Bool
  | some (.long _) => true
  | _ => false
def zsA : Option Value → Bool
  | some (.ref _) => true
  | some .null => true
  | _ => false
def zin : Option Value → Int32
  | some (.int x) => x
  | _ => 0
theorem zsI_sp {o : Option Value} (h : zsI o = true) : ∃ x, o = some (.int x) := by
  rcases o with _ | v
  · cases h
  · cases v <;> first | exact ⟨_, rfl⟩ | cases h
theorem zsL_sp {o : Option Value} (h : zsL o = true) : ∃ x, o = some (.long x) := by
  rcases o with _ | v
  · cases h
  · cases v <;> first | exact ⟨_, rfl⟩ | cases h
theorem zsA_sp {o : Option Value} (h : zsA o = true) : (∃ x, o = some (.ref x)) ∨ o = some .null := by
  rcases o with _ | v
  · cases h
  · cases v <;> first | exact Or.inl ⟨_, rfl⟩ | exact Or.inr rfl | cases h
/-- fields: which class and slot and kind (0 int, 1 long, 2 boolean, 3 a reference; 10 more: final) -/
def zrd : Option (Nat × Nat × Nat) → Option va_E → Option Value
  | some (ci, f, _), some (.inr (c, fs)) => bif c == ci then fs[f]? else none
  | _, _ => none
def zwr : Option (Nat × Nat × Nat) → Option va_E → Value → va_E
  | some (_, f, _), some (.inr (c, fs)), v => .inr (c, fs.set f v)
  | _, _, v => .inr (0, [v])
def zkv (ini : Bool) : Nat → Value → Prop
  | 0, .int _ => True
  | 1, .long _ => True
  | 2, .int x => x = 0 ∨ x = 1
  | 3, .ref _ => True
  | 3, .null => True
  | 10, .int _ => ini = true
  | 11, .long _ => ini = true
  | 12, .int x => ini = true ∧ (x = 0 ∨ x = 1)
  | 13, .ref _ => ini = true
  | 13, .null => ini = true
  | _, _ => False
def zkf (ini : Bool) : Option (Nat × Nat × Nat) → Value → Prop
  | some (_, _, kd), v => zkv ini kd v
  | _, _ => False
/-- arrays -/
def zai : Option va_E → ClassId → Int32 → Prop
  | some (.inl (c, n, .inl _)), cA, i => c = cA ∧ vp_in i n
  | _, _, _ => False
def zaf : Option va_E → Nat → Int32
  | some (.inl (_, _, .inl f)), j => f j
  | _, _ => 0
def zaw : Option va_E → Nat → Int32 → va_E
  | some (.inl (c, n, .inl f)), j, x => .inl (c, n, .inl (upd f j x))
  | _, _, x => .inr (0, [.int x])
def zaL : Option va_E → ClassId → Int32 → Prop
  | some (.inl (c, n, .inr (.inl _))), cA, i => c = cA ∧ vp_in i n
  | _, _, _ => False
def zLf : Option va_E → Nat → Int64
  | some (.inl (_, _, .inr (.inl f))), j => f j
  | _, _ => 0
def zLw : Option va_E → Nat → Int64 → va_E
  | some (.inl (c, n, .inr (.inl f))), j, x => .inl (c, n, .inr (.inl (vp_updL f j x)))
  | _, _, x => .inr (0, [.long x])
def zal (dA : Nat → ClassId) : Option va_E → Prop
  | some (.inl (c, _)) => ∃ (t : Nat) (ty : FieldType), (kt dA)[t]? = some (c, ty)
  | _ => False
def zan : Option va_E → Nat
  | some (.inl (_, n, _)) => n
  | _ => 0
def zaq (dA : Nat → ClassId) : Option va_E → Int32 → Prop
  | some (.inl (c, n, .inr (.inr (.inr (.inr _))))), i => (∃ (t : Nat) (C : String), (kt dA)[t]? = some (c, .object C)) ∧ vp_in i n
  | _, _ => False
def zag : Option va_E → Nat → Option Nat
  | some (.inl (_, _, .inr (.inr (.inr (.inr f))))), j => f j
  | _, _ => none
/-- the answer of a method: 1 int, 2 boolean, 3 a reference, 4 long -/
def zri : Nat → Int32 → Prop
  | 1, _ => True
  | 2, x => x = 0 ∨ x = 1
  | _, _ => False
def zt (pc : Nat) (off : Int) : Nat := ((pc : Int) + off).toNat
def zo (pc : Nat) (off : Int) : Prop := 0 ≤ (pc : Int) + off
theorem zt_ok {pc : Nat} {off : Int} (h : zo pc off) : (pc : Int) + off = ((zt pc off : Nat) : Int) := by
  unfold zo at h; unfold zt; omega
def zswk (lo hi : Int) (offs : Array Int) : Prop := hi - lo + 1 = offs.toList.length
def zswl (K : Nat → Prop) (pc : Nat) (x : Int) : Int → List Int → Prop
  | _, [] => True
  | v, o :: os => (x = v → zo pc o ∧ K (zt pc o)) ∧ zswl K pc x (v + 1) os
theorem zswl_mono {K K' : Nat → Prop} {pc : Nat} {x : Int} (h : ∀ t, K t → K' t) : ∀ {os : List Int} {v : Int}, zswl K pc x v os → zswl K' pc x v os
  | [], _, _ => trivial
  | _ :: _, _, hh => ⟨fun e => ⟨(hh.1 e).1, h _ (hh.1 e).2⟩, zswl_mono h hh.2⟩
theorem zswl_at {K : Nat → Prop} {pc : Nat} {x : Int} : ∀ {os : List Int} {v : Int}, zswl K pc x v os → v ≤ x → x < v + os.length → ∃ o, os[(x - v).toNat]? = some o ∧ zo pc o ∧ K (zt pc o)
  | [], v, _, h1, h2 => absurd h2 (by simp; omega)
  | o :: os, v, hh, h1, h2 => by
    by_cases e : x = v
    · subst e
      exact ⟨o, by rw [Int.sub_self]; rfl, hh.1 rfl⟩
    · obtain ⟨o2, q1, q2⟩ := zswl_at (v := v + 1) hh.2 (by omega) (by rw [List.length_cons] at h2; omega)
      refine ⟨o2, ?_, q2⟩
      rw [show (x - v).toNat = (x - (v + 1)).toNat + 1 by omega, List.getElem?_cons_succ]
      exact q1
def zf4 (k : Fin 4) : Nat := k.val
def zst5 (fl : Nat → Option (Nat × Nat × Nat)) (lc : Nat → Option Int32) (ll : Nat → Option Int64) (dA : Nat → ClassId) (rt : Nat) (ini : Bool) (nL : Nat) (Jk K : zK) (post : Option Value → zVw → Nat → Nat → Prop) (i : Instr) (len : Nat) : zK := fun pc loc st M k n =>
  match i with
  | .areturn => match st with
    | [.ref v] => rt = 3 ∧ post (some (.ref v)) M k n
    | [.null] => rt = 3 ∧ post (some .null) M k n
    | _ => False
  | .return_ => match st with
    | [] => rt = 0 ∧ post none M k n
    | _ => False
  | _ => Jk pc loc st M k n
def zst4 (fl : Nat → Option (Nat × Nat × Nat)) (lc : Nat → Option Int32) (ll : Nat → Option Int64) (dA : Nat → ClassId) (rt : Nat) (ini : Bool) (nL : Nat) (Jk K : zK) (post : Option Value → zVw → Nat → Nat → Prop) (i : Instr) (len : Nat) : zK := fun pc loc st M k n =>
  match i with
  | .tableswitch d lo hi offs => match st with
    | .int x :: r => zswk lo hi offs ∧ (x.toInt < lo ∨ hi < x.toInt → zo pc d ∧ K (zt pc d) loc r M k n) ∧ zswl (fun t => K t loc r M k n) pc x.toInt lo offs.toList
    | _ => False
  | .iinc x v => zsI (zlg loc x) = true ∧ x < nL ∧ K (pc + len) ((x, .int (zin (zlg loc x) + Int32.ofInt v)) :: zlr loc x) st M k n
  | .getfield x => match st with
    | .ref a :: r => zso (zrd (fl x) (M a)) = true ∧ K (pc + len) loc (zvo (zrd (fl x) (M a)) :: r) M k n
    | _ => False
  | .putfield x => match st with
    | v :: .ref a :: r => zso (zrd (fl x) (M a)) = true ∧ zkf ini (fl x) v ∧ K (pc + len) loc r (zu M a (zwr (fl x) (M a) v)) k n
    | _ => False
  | .iaload => match st with
    | .int i :: .ref a :: r => zai (M a) (dA 0) i ∧ K (pc + len) loc (.int (zaf (M a) i.toNatClampNeg) :: r) M k n
    | _ => False
  | .iastore => match st with
    | .int x :: .int i :: .ref a :: r => zai (M a) (dA 0) i ∧ K (pc + len) loc r (zu M a (zaw (M a) i.toNatClampNeg x)) k n
    | _ => False
  | .laload => match st with
    | .int i :: .ref a :: r => zaL (M a) (dA 3) i ∧ K (pc + len) loc (.long (zLf (M a) i.toNatClampNeg) :: r) M k n
    | _ => False
  | .lastore => match st with
    | .long x :: .int i :: .ref a :: r => zaL (M a) (dA 3) i ∧ K (pc + len) loc r (zu M a (zLw (M a) i.toNatClampNeg x)) k n
    | _ => False
  | .baload => match st with
    | .int i :: .ref a :: r => zai (M a) (dA 4) i ∧ K (pc + len) loc (.int (zaf (M a) i.toNatClampNeg) :: r) M k n
    | _ => False
  | .bastore => match st with
    | .int x :: .int i :: .ref a :: r => zai (M a) (dA 4) i ∧ (x = 0 ∨ x = 1) ∧ K (pc + len) loc r (zu M a (zaw (M a) i.toNatClampNeg x)) k n
    | _ => False
  | .arraylength => match st with
    | .ref a :: r => zal dA (M a) ∧ K (pc + len) loc (.int (Int32.ofNat (zan (M a))) :: r) M k n
    | _ => False
  | .aaload => match st with
    | .int i :: .ref a :: r => zaq dA (M a) i ∧ K (pc + len) loc (va_rf (zag (M a) i.toNatClampNeg) :: r) M k n
    | _ => False
  | .ireturn => match st with
    | [.int v] => zri rt v ∧ post (some (.int v)) M k n
    | _ => False
  | .lreturn => match st with
    | [.long v] => rt = 4 ∧ post (some (.long v)) M k n
    | _ => False
  | _ => zst5 fl lc ll dA rt ini nL Jk K post i len pc loc st M k n
def zst3 (fl : Nat → Option (Nat × Nat × Nat)) (lc : Nat → Option Int32) (ll : Nat → Option Int64) (dA : Nat → ClassId) (rt : Nat) (ini : Bool) (nL : Nat) (Jk K : zK) (post : Option Value → zVw → Nat → Nat → Prop) (i : Instr) (len : Nat) : zK := fun pc loc st M k n =>
  match i with
  | .ifCond .ne off => match st with
    | .int x :: r => zo pc off ∧ (¬ x = 0 → K (zt pc off) loc r M k n) ∧ (x = 0 → K (pc + len) loc r M k n)
    | _ => False
  | .ifCond .lt off => match st with
    | .int x :: r => zo pc off ∧ (x < 0 → K (zt pc off) loc r M k n) ∧ (¬ x < 0 → K (pc + len) loc r M k n)
    | _ => False
  | .ifCond .ge off => match st with
    | .int x :: r => zo pc off ∧ (0 ≤ x → K (zt pc off) loc r M k n) ∧ (¬ 0 ≤ x → K (pc + len) loc r M k n)
    | _ => False
  | .ifCond .gt off => match st with
    | .int x :: r => zo pc off ∧ (0 < x → K (zt pc off) loc r M k n) ∧ (¬ 0 < x → K (pc + len) loc r M k n)
    | _ => False
  | .ifCond .le off => match st with
    | .int x :: r => zo pc off ∧ (x ≤ 0 → K (zt pc off) loc r M k n) ∧ (¬ x ≤ 0 → K (pc + len) loc r M k n)
    | _ => False
  | .if_icmp .eq off => match st with
    | .int y :: .int x :: r => zo pc off ∧ (x = y → K (zt pc off) loc r M k n) ∧ (¬ x = y → K (pc + len) loc r M k n)
    | _ => False
  | .if_icmp .ne off => match st with
    | .int y :: .int x :: r => zo pc off ∧ (¬ x = y → K (zt pc off) loc r M k n) ∧ (x = y → K (pc + len) loc r M k n)
    | _ => False
  | .if_icmp .lt off => match st with
    | .int y :: .int x :: r => zo pc off ∧ (x < y → K (zt pc off) loc r M k n) ∧ (¬ x < y → K (pc + len) loc r M k n)
    | _ => False
  | .if_icmp .ge off => match st with
    | .int y :: .int x :: r => zo pc off ∧ (y ≤ x → K (zt pc off) loc r M k n) ∧ (¬ y ≤ x → K (pc + len) loc r M k n)
    | _ => False
  | .if_icmp .gt off => match st with
    | .int y :: .int x :: r => zo pc off ∧ (y < x → K (zt pc off) loc r M k n) ∧ (¬ y < x → K (pc + len) loc r M k n)
    | _ => False
  | .if_icmp .le off => match st with
    | .int y :: .int x :: r => zo pc off ∧ (x ≤ y → K (zt pc off) loc r M k n) ∧ (¬ x ≤ y → K (pc + len) loc r M k n)
    | _ => False
  | .ifnull off => match st with
    | .ref _ :: r => K (pc + len) loc r M k n
    | .null :: r => zo pc off ∧ K (zt pc off) loc r M k n
    | _ => False
  | .ifnonnull off => match st with
    | .ref _ :: r => zo pc off ∧ K (zt pc off) loc r M k n
    | .null :: r => K (pc + len) loc r M k n
    | _ => False
  | .goto off => zo pc off ∧ K (zt pc off) loc st M k n
  | _ => zst4 fl lc ll dA rt ini nL Jk K post i len pc loc st M k n
def zst2 (fl : Nat → Option (Nat × Nat × Nat)) (lc : Nat → Option Int32) (ll : Nat → Option Int64) (dA : Nat → ClassId) (rt : Nat) (ini : Bool) (nL : Nat) (Jk K : zK) (post : Option Value → zVw → Nat → Nat → Prop) (i : Instr) (len : Nat) : zK := fun pc loc st M k n =>
  match i with
  | .lsub => match st with
    | .long y :: .long x :: r => K (pc + len) loc (.long (x - y) :: r) M k n
    | _ => False
  | .lmul => match st with
    | .long y :: .long x :: r => K (pc + len) loc (.long (x * y) :: r) M k n
    | _ => False
  | .land => match st with
    | .long y :: .long x :: r => K (pc + len) loc (.long (x &&& y) :: r) M k n
    | _ => False
  | .lor => match st with
    | .long y :: .long x :: r => K (pc + len) loc (.long (x ||| y) :: r) M k n
    | _ => False
  | .ldiv => match st with
    | .long y :: .long x :: r => ¬ y = 0 ∧ K (pc + len) loc (.long (x / y) :: r) M k n
    | _ => False
  | .lcmp => match st with
    | .long y :: .long x :: r => K (pc + len) loc (.int (lg_cmp x y) :: r) M k n
    | _ => False
  | .i2l => match st with
    | .int x :: r => K (pc + len) loc (.long x.toInt64 :: r) M k n
    | _ => False
  | .l2i => match st with
    | .long x :: r => K (pc + len) loc (.int x.toInt32 :: r) M k n
    | _ => False
  | .lshl => match st with
    | .int y :: .long x :: r => K (pc + len) loc (.long (x <<< (y.toInt64 &&& 63)) :: r) M k n
    | _ => False
  | .dup => match st with
    | .int x :: r => K (pc + len) loc (.int x :: .int x :: r) M k n
    | .ref x :: r => K (pc + len) loc (.ref x :: .ref x :: r) M k n
    | _ => False
  | .pop => match st with
    | .int _ :: r => K (pc + len) loc r M k n
    | .ref _ :: r => K (pc + len) loc r M k n
    | .null :: r => K (pc + len) loc r M k n
    | _ => False
  | .dup_x1 => match st with
    | .int x :: .ref y :: r => K (pc + len) loc (.int x :: .ref y :: .int x :: r) M k n
    | .ref x :: .ref y :: r => K (pc + len) loc (.ref x :: .ref y :: .ref x :: r) M k n
    | _ => False
  | .dup2 => match st with
    | .int x :: .ref y :: r => K (pc + len) loc (.int x :: .ref y :: .int x :: .ref y :: r) M k n
    | _ => False
  | .ifCond .eq off => match st with
    | .int x :: r => zo pc off ∧ (x = 0 → K (zt pc off) loc r M k n) ∧ (¬ x = 0 → K (pc + len) loc r M k n)
    | _ => False
  | _ => zst3 fl lc ll dA rt ini nL Jk K post i len pc loc st M k n
def zst1 (fl : Nat → Option (Nat × Nat × Nat)) (lc : Nat → Option Int32) (ll : Nat → Option Int64) (dA : Nat → ClassId) (rt : Nat) (ini : Bool) (nL : Nat) (Jk K : zK) (post : Option Value → zVw → Nat → Nat → Prop) (i : Instr) (len : Nat) : zK := fun pc loc st M k n =>
  match i with
  | .astore_n x => match st with
    | .ref v :: r => (zf4 x) < nL ∧ K (pc + len) (((zf4 x), .ref v) :: zlr loc (zf4 x)) r M k n
    | .null :: r => (zf4 x) < nL ∧ K (pc + len) (((zf4 x), .null) :: zlr loc (zf4 x)) r M k n
    | _ => False
  | .istore x => match st with
    | .int v :: r => x < nL ∧ K (pc + len) ((x, .int v) :: zlr loc x) r M k n
    | _ => False
  | .astore x => match st with
    | .ref v :: r => x < nL ∧ K (pc + len) ((x, .ref v) :: zlr loc x) r M k n
    | .null :: r => x < nL ∧ K (pc + len) ((x, .null) :: zlr loc x) r M k n
    | _ => False
  | .lstore_n x => match st with
    | .long v :: r => (zf4 x) + 1 < nL ∧ K (pc + len) (((zf4 x), .long v) :: zl2 loc (zf4 x)) r M k n
    | _ => False
  | .lstore x => match st with
    | .long v :: r => x + 1 < nL ∧ K (pc + len) ((x, .long v) :: zl2 loc x) r M k n
    | _ => False
  | .iadd => match st with
    | .int y :: .int x :: r => K (pc + len) loc (.int (x + y) :: r) M k n
    | _ => False
  | .isub => match st with
    | .int y :: .int x :: r => K (pc + len) loc (.int (x - y) :: r) M k n
    | _ => False
  | .ishr => match st with
    | .int y :: .int x :: r => K (pc + len) loc (.int (x >>> (y &&& 31)) :: r) M k n
    | _ => False
  | .imul => match st with
    | .int y :: .int x :: r => K (pc + len) loc (.int (x * y) :: r) M k n
    | _ => False
  | .iand => match st with
    | .int y :: .int x :: r => K (pc + len) loc (.int (x &&& y) :: r) M k n
    | _ => False
  | .idiv => match st with
    | .int y :: .int x :: r => ¬ y = 0 ∧ K (pc + len) loc (.int (x / y) :: r) M k n
    | _ => False
  | .irem => match st with
    | .int y :: .int x :: r => ¬ y = 0 ∧ K (pc + len) loc (.int (x - x / y * y) :: r) M k n
    | _ => False
  | .ineg => match st with
    | .int x :: r => K (pc + len) loc (.int (-x) :: r) M k n
    | _ => False
  | .ladd => match st with
    | .long y :: .long x :: r => K (pc + len) loc (.long (x + y) :: r) M k n
    | _ => False
  | _ => zst2 fl lc ll dA rt ini nL Jk K post i len pc loc st M k n
def zst0 (fl : Nat → Option (Nat × Nat × Nat)) (lc : Nat → Option Int32) (ll : Nat → Option Int64) (dA : Nat → ClassId) (rt : Nat) (ini : Bool) (nL : Nat) (Jk K : zK) (post : Option Value → zVw → Nat → Nat → Prop) (i : Instr) (len : Nat) : zK := fun pc loc st M k n =>
  match i with
  | .aconst_null => K (pc + len) loc (.null :: st) M k n
  | .iconst v => K (pc + len) loc (.int (Int32.ofInt v) :: st) M k n
  | .bipush v => K (pc + len) loc (.int (Int8.ofInt v).toInt32 :: st) M k n
  | .sipush v => K (pc + len) loc (.int (Int16.ofInt v).toInt32 :: st) M k n
  | .lconst v => K (pc + len) loc (.long (Int64.ofNat (v : Nat)) :: st) M k n
  | .ldc x => (lc x).isSome = true ∧ K (pc + len) loc (.int ((lc x).getD 0) :: st) M k n
  | .ldc2_w x => (ll x).isSome = true ∧ K (pc + len) loc (.long ((ll x).getD 0) :: st) M k n
  | .iload_n x => zsI (zlg loc (zf4 x)) = true ∧ K (pc + len) loc (zvo (zlg loc (zf4 x)) :: st) M k n
  | .iload x => zsI (zlg loc x) = true ∧ K (pc + len) loc (zvo (zlg loc x) :: st) M k n
  | .lload_n x => zsL (zlg loc (zf4 x)) = true ∧ K (pc + len) loc (zvo (zlg loc (zf4 x)) :: st) M k n
  | .lload x => zsL (zlg loc x) = true ∧ K (pc + len) loc (zvo (zlg loc x) :: st) M k n
  | .aload_n x => zsA (zlg loc (zf4 x)) = true ∧ K (pc + len) loc (zvo (zlg loc (zf4 x)) :: st) M k n
  | .aload x => zsA (zlg loc x) = true ∧ K (pc + len) loc (zvo (zlg loc x) :: st) M k n
  | .istore_n x => match st with
    | .int v :: r => (zf4 x) < nL ∧ K (pc + len) (((zf4 x), .int v) :: zlr loc (zf4 x)) r M k n
    | _ => False
  | _ => zst1 fl lc ll dA rt ini nL Jk K post i len pc loc st M k n
def zlb (i : Instr) (len : Nat) : Bool := match i with
  | .aconst_null => len == 1
  | .iconst _ => len == 1
  | .bipush _ => len == 2
  | .sipush _ => len == 3
  | .lconst _ => len == 1
  | .ldc _ => len == 2
  | .ldc2_w _ => len == 3
  | .iload_n _ => len == 1
  | .iload _ => len == 2
  | .lload_n _ => len == 1
  | .lload _ => len == 2
  | .aload_n _ => len == 1
  | .aload _ => len == 2
  | .istore_n _ => len == 1
  | .astore_n _ => len == 1
  | .istore _ => len == 2
  | .astore _ => len == 2
  | .lstore_n _ => len == 1
  | .lstore _ => len == 2
  | .iadd => len == 1
  | .isub => len == 1
  | .ishr => len == 1
  | .imul => len == 1
  | .iand => len == 1
  | .idiv => len == 1
  | .irem => len == 1
  | .ineg => len == 1
  | .ladd => len == 1
  | .lsub => len == 1
  | .lmul => len == 1
  | .land => len == 1
  | .lor => len == 1
  | .ldiv => len == 1
  | .lcmp => len == 1
  | .i2l => len == 1
  | .l2i => len == 1
  | .lshl => len == 1
  | .dup => len == 1
  | .pop => len == 1
  | .dup_x1 => len == 1
  | .dup2 => len == 1
  | .ifCond .eq _ => len == 3
  | .ifCond .ne _ => len == 3
  | .ifCond .lt _ => len == 3
  | .ifCond .ge _ => len == 3
  | .ifCond .gt _ => len == 3
  | .ifCond .le _ => len == 3
  | .if_icmp .eq _ => len == 3
  | .if_icmp .ne _ => len == 3
  | .if_icmp .lt _ => len == 3
  | .if_icmp .ge _ => len == 3
  | .if_icmp .gt _ => len == 3
  | .if_icmp .le _ => len == 3
  | .ifnull _ => len == 3
  | .ifnonnull _ => len == 3
  | .goto _ => len == 3
  | .tableswitch _ _ _ _ => true
  | .iinc _ _ => len == 3
  | .getfield _ => len == 3
  | .putfield _ => len == 3
  | .iaload => len == 1
  | .iastore => len == 1
  | .laload => len == 1
  | .lastore => len == 1
  | .baload => len == 1
  | .bastore => len == 1
  | .arraylength => len == 1
  | .aaload => len == 1
  | .ireturn => len == 1
  | .lreturn => len == 1
  | .areturn => len == 1
  | .return_ => len == 1
  | _ => false
section ZS
variable {p : Program} {l : Launch} {e : Env} {R : Room} {s : State} {m : MethodId} {args : Array Value} {below : List Frame} {meth : Method} {c : Code} {Q : State → Prop} {own : String} {cc : ByteArray} {nL z : Nat} {D : va_G} {dA : Nat → ClassId} {ini : Bool} {fl : Nat → Option (Nat × Nat × Nat)} {lc : Nat → Option Int32} {ll : Nat → Option Int64} {rt : Nat} {K : zK} {post : Option Value → zVw → Nat → Nat → Prop} {pc k n : Nat} {loc : List (Nat × Value)} {M : zVw} {r : List Value}
theorem zJ_iinc {x : Nat} {v : Int} {w : Int32} {st : List Value} (C : zC p s m args meth c own cc nL z D dA ini) (hd : decode cc pc = .ok (.iinc x v, 3)) (hw : zlg loc x = some (.int w)) (hx : x < nL) (h : (zJ p l e R s m args below meth c Q nL z D) (pc + 3) ((x, .int (w + Int32.ofInt v)) :: zlr loc x) st M k n) : (zJ p l e R s m args below meth c Q nL z D) pc loc st M k n := by
  intro H locs ls hv hz hS hl
  have hmem : ∀ {loc : List (Nat × Value)}, zlg loc x = some (.int w) → ∃ j : Nat, loc[j]? = some (x, Value.int w) := by
    intro loc
    induction loc with
    | nil => intro h; simp [zlg] at h
    | cons q loc ih =>
      obtain ⟨j, u⟩ := q
      intro h
      unfold zlg at h
      cases hj : (j == x) with
      | true =>
        rw [hj] at h
        have e1 : j = x := by simpa using hj
        cases h
        subst e1
        exact ⟨0, rfl⟩
      | false =>
        rw [hj] at h
        obtain ⟨j2, h2⟩ := ih h
        exact ⟨j2 + 1, by rw [List.getElem?_cons_succ]; exact h2⟩
  obtain ⟨j, hj⟩ := hmem hw
  exact lv_iinc C.1 C.2.1 hd hl hj rfl hx (congrArg (List.cons _) (zlr_eq _ _)) (fun ls' hl' => h H locs ls' hv hz hS hl')
theorem zJ_tsw {d lo hi : Int} {offs : Array Int} {len : Nat} {x : Int32} (C : zC p s m args meth c own cc nL z D dA ini) (hd : decode cc pc = .ok (.tableswitch d lo hi offs, len)) (hk : zswk lo hi offs) (h0 : x.toInt < lo ∨ hi < x.toInt → zo pc d ∧ (zJ p l e R s m args below meth c Q nL z D) (zt pc d) loc r M k n) (h1 : zswl (fun t => (zJ p l e R s m args below meth c Q nL z D) t loc r M k n) pc x.toInt lo offs.toList) : (zJ p l e R s m args below meth c Q nL z D) pc loc (.int x :: r) M k n := by
  intro H locs ls hv hz hS hl
  by_cases hc : x.toInt < lo ∨ hi < x.toInt
  · exact lv_tableOut C.1 C.2.1 hd hc (zt_ok (h0 hc).1) ((h0 hc).2 H locs ls hv hz hS hl)
  · have a1 : ¬ x.toInt < lo := fun q => hc (Or.inl q)
    have a2 : ¬ hi < x.toInt := fun q => hc (Or.inr q)
    unfold zswk at hk
    obtain ⟨o, q1, q2, q3⟩ := zswl_at h1 (by omega) (by omega)
    rw [Array.getElem?_toList] at q1
    exact lv_tableIn C.1 C.2.1 hd a1 a2 q1 (zt_ok q2) (q3 H locs ls hv hz hS hl)
/-- the fields of a class's pool: what the table says of an index is so by the words -/
def zfl (own : String) (fl : Nat → Option (Nat × Nat × Nat)) : Prop := ∀ (x ci f kd : Nat), fl x = some (ci, f, kd) → ∃ (r : vw_C) (ref : String) (ty0 : Nat → FieldType), kc[ci]? = some r ∧ f < r.2.2 ∧ Cond.fieldLink own x ref (r.2.1 f).2.1 (r.2.1 f).2.2.1 ∈ tb ∧ (ref = (r.2.1 f).1 ∨ Cond.sameField ref (r.2.1 f).1 (r.2.1 f).2.1 (r.2.1 f).2.2.1 ∈ tb) ∧ (∀ w ∈ u_ws r.1 r.2.1 r.2.2, w ∈ tb) ∧ (∀ j, j < r.2.2 → parseFieldDescriptor (r.2.1 j).2.2.1 = some (ty0 j)) ∧ (∀ a, a < r.2.2 → ∀ b, b < r.2.2 → a ≠ b → (r.2.1 a).2.1 ≠ (r.2.1 b).2.1) ∧
  ((kd = 0 ∧ ty0 f = .int ∧ (r.2.1 f).2.2.2 = false) ∨ (kd = 1 ∧ ty0 f = .long ∧ (r.2.1 f).2.2.2 = false) ∨ (kd = 2 ∧ ty0 f = .boolean ∧ (r.2.1 f).2.2.2 = false) ∨ (kd = 3 ∧ ((∃ C, ty0 f = .object C) ∨ ∃ t, ty0 f = .array t) ∧ (r.2.1 f).2.2.2 = false) ∨
   (kd = 10 ∧ ty0 f = .int ∧ (r.2.1 f).2.2.2 = true ∧ (r.2.1 f).1 = own) ∨ (kd = 11 ∧ ty0 f = .long ∧ (r.2.1 f).2.2.2 = true ∧ (r.2.1 f).1 = own) ∨ (kd = 12 ∧ ty0 f = .boolean ∧ (r.2.1 f).2.2.2 = true ∧ (r.2.1 f).1 = own) ∨ (kd = 13 ∧ ((∃ C, ty0 f = .object C) ∨ ∃ t, ty0 f = .array t) ∧ (r.2.1 f).2.2.2 = true ∧ (r.2.1 f).1 = own) ∨ kd = 20)
def zlk (own : String) (fl : Nat → Option (Nat × Nat × Nat)) (lc : Nat → Option Int32) (ll : Nat → Option Int64) : Prop := zfl own fl ∧ (∀ x v, lc x = some v → Cond.constant own x v ∈ tb) ∧ ∀ x v, ll x = some v → Cond.constantLong own x v ∈ tb
theorem zrd_sp {o : Option (Nat × Nat × Nat)} {q : Option va_E} (h : zso (zrd o q) = true) : ∃ (ci f kd : Nat) (fs : List Value) (v : Value), o = some (ci, f, kd) ∧ q = some (.inr (ci, fs)) ∧ fs[f]? = some v := by
  rcases o with _ | ⟨ci, f, kd⟩
  · cases h
  · rcases q with _ | (a | ⟨c, fs⟩)
    · cases h
    · cases h
    · have h : zso (bif c == ci then fs[f]? else none) = true := h
      cases hc : (c == ci) with
      | false => rw [hc] at h; cases h
      | true =>
        rw [hc] at h
        have h : zso fs[f]? = true := h
        have e1 : c = ci := by simpa using hc
        cases hf : fs[f]? with
        | none => rw [hf] at h; cases h
        | some v => exact ⟨ci, f, kd, fs, v, rfl, by rw [e1], hf⟩
theorem zrd_eq {ci f kd : Nat} {fs : List Value} : zrd (some (ci, f, kd)) (some (.inr (ci, fs))) = fs[f]? := by
  show (bif ci == ci then fs[f]? else none) = fs[f]?
  rw [beq_self_eq_true]
  rfl
theorem zJ_get {x a : Nat} (C : zC p s m args meth c own cc nL z D dA ini) (L : zfl own fl) (hd : decode cc pc = .ok (.getfield x, 3)) (h1 : zso (zrd (fl x) (M a)) = true) (h : (zJ p l e R s m args below meth c Q nL z D) (pc + 3) loc (zvo (zrd (fl x) (M a)) :: r) M k n) : (zJ p l e R s m args below meth c Q nL z D) pc loc (.ref a :: r) M k n := by
  intro H locs ls hv hz hS hl
  obtain ⟨ci, f, kd, fs, v, e1, e2, e3⟩ := zrd_sp h1
  rw [e1, e2, zrd_eq, e3] at h
  obtain ⟨q, ref, ty0, g1, g2, g3, g4, g5, -⟩ := L x ci f kd e1
  obtain ⟨ws, hP, hD, hin, -⟩ := zv_ws hv hz
  obtain ⟨j, hj⟩ := hin a _ e2
  refine va_get (D := D) (ci := ci) (v := v) (C := q.1) (T := q.2.1) (N := q.2.2) C.1 C.2.1 C.2.2.2.2.1 g5 C.2.2.2.1 C.2.2.2.2.2.2.1 hP j hj g1 f g2 (C.2.2.2.2.1 _ g3) ?_ e3 hd (h H locs ls hv hz hS hl)
  rcases g4 with g4 | g4
  · intro y hy; rw [g4]; exact hy
  · exact u_same (C.2.2.2.2.1 _ g4)
theorem zJ_put {x a : Nat} {v : Value} (C : zC p s m args meth c own cc nL z D dA ini) (L : zfl own fl) (hd : decode cc pc = .ok (.putfield x, 3)) (h1 : zso (zrd (fl x) (M a)) = true) (h2 : zkf ini (fl x) v) (h : (zJ p l e R s m args below meth c Q nL z D) (pc + 3) loc r (zu M a (zwr (fl x) (M a) v)) k n) : (zJ p l e R s m args below meth c Q nL z D) pc loc (v :: .ref a :: r) M k n := by
  intro H locs ls hv hz hS hl
  obtain ⟨ci, f, kd, fs, v0, e1, e2, e3⟩ := zrd_sp h1
  rw [e1, e2] at h
  rw [e1] at h2
  have h2 : zkv ini kd v := h2
  have h : (zJ p l e R s m args below meth c Q nL z D) (pc + 3) loc r (zu M a (.inr (ci, fs.set f v))) k n := h
  obtain ⟨q, ref, ty0, g1, g2, g3, g4, g5, g6, g7, g8⟩ := L x ci f kd e1
  obtain ⟨ws, hP, hD, hin, hset, -⟩ := zv_ws hv hz
  obtain ⟨j, hj⟩ := hin a _ e2
  have hfl : f < fs.length := (List.getElem?_eq_some_iff.mp e3).1
  have hsame : ∀ x, s.fieldFound? (q.2.1 f).1 (q.2.1 f).2.1 (q.2.1 f).2.2.1 = some x → s.fieldFound? ref (q.2.1 f).2.1 (q.2.1 f).2.2.1 = some x := by
    rcases g4 with g4 | g4
    · intro y hy; rw [g4]; exact hy
    · exact u_same (C.2.2.2.2.1 _ g4)
  have go : ∀ {ty : FieldType}, ty0 f = ty → (q.2.1 f).2.2.2 = false → narrow ty v = v → fits ty v = true → W p l e R s m args below meth c H locs k n Q (F0 m pc ls (v :: .ref a :: r)) := by
    intro ty hty hfin hn hf
    exact va_put (D := D) (ci := ci) (v := v) (ty := ty) (C := q.1) (T := q.2.1) (N := q.2.2) C.1 C.2.1 C.2.2.2.2.1 g5 ty0 g6 g7 C.2.2.2.1 C.2.2.2.2.2.2.1 hP hD hS j hj g1 f g2 (C.2.2.2.2.1 _ g3) hsame hfin (by rw [g6 f g2, hty]) hn hf hfl hd (fun H1 locs1 hP1 hD1 hS1 => h H1 locs1 ls (hset j a _ _ H1 hj hP1) (zhd_u hz (hz a _ e2)) hS1 hl)
  have goF : ∀ {ty : FieldType}, ty0 f = ty → (q.2.1 f).2.2.2 = true → (q.2.1 f).1 = own → ini = true → narrow ty v = v → fits ty v = true → W p l e R s m args below meth c H locs k n Q (F0 m pc ls (v :: .ref a :: r)) := by
    intro ty hty hfin hown2 hi hn hf
    exact va_putF (D := D) (ci := ci) (v := v) (ty := ty) (C := q.1) (T := q.2.1) (N := q.2.2) C.1 C.2.1 C.2.2.2.2.1 g5 ty0 g6 g7 C.2.2.2.1 C.2.2.2.2.2.2.1 hP hD hS j hj g1 f g2 (C.2.2.2.2.1 _ g3) hsame hfin (C.2.2.2.2.2.2.2.2.1 hi) hown2 (by rw [g6 f g2, hty]) hn hf hfl hd (fun H1 locs1 hP1 hD1 hS1 => h H1 locs1 ls (hset j a _ _ H1 hj hP1) (zhd_u hz (hz a _ e2)) hS1 hl)
  have bz : ∀ x : Int32, (x = 0 ∨ x = 1) → narrow .boolean (.int x) = .int x ∧ fits .boolean (.int x) = true := by
    rintro x (rfl | rfl)
    · exact ⟨by decide +kernel, by decide +kernel⟩
    · exact ⟨by decide +kernel, by decide +kernel⟩
  rcases g8 with ⟨rfl, t1, t2⟩ | ⟨rfl, t1, t2⟩ | ⟨rfl, t1, t2⟩ | ⟨rfl, t1, t2⟩ | ⟨rfl, t1, t2, t3⟩ | ⟨rfl, t1, t2, t3⟩ | ⟨rfl, t1, t2, t3⟩ | ⟨rfl, t1, t2, t3⟩ | rfl
  · cases v <;> first | exact go t1 t2 rfl rfl | exact h2.elim
  · cases v <;> first | exact go t1 t2 rfl rfl | exact h2.elim
  · cases v <;> first | exact go t1 t2 (bz _ h2).1 (bz _ h2).2 | exact h2.elim
  · rcases t1 with ⟨_, t1⟩ | ⟨_, t1⟩ <;> cases v <;> first | exact go t1 t2 rfl rfl | exact h2.elim
  · cases v <;> first | exact goF t1 t2 t3 h2 rfl rfl | exact h2.elim
  · cases v <;> first | exact goF t1 t2 t3 h2 rfl rfl | exact h2.elim
  · cases v <;> first | exact goF t1 t2 t3 h2.1 (bz _ h2.2).1 (bz _ h2.2).2 | exact h2.elim
  · rcases t1 with ⟨_, t1⟩ | ⟨_, t1⟩ <;> cases v <;> first | exact goF t1 t2 t3 h2 rfl rfl | exact h2.elim
  · cases v <;> exact h2.elim
theorem zai_sp {o : Option va_E} {cA : ClassId} {i : Int32} (h : zai o cA i) : ∃ nn f, o = some (.inl (cA, nn, .inl f)) ∧ vp_in i nn := by
  rcases o with _ | (⟨c, nn, f | f⟩ | q)
  · exact h.elim
  · obtain ⟨rfl, h2⟩ := h
    exact ⟨nn, f, rfl, h2⟩
  · exact h.elim
  · exact h.elim
theorem zJ_iald {a : Nat} {i : Int32} (C : zC p s m args meth c own cc nL z D dA ini) (hd : decode cc pc = .ok (.iaload, 1)) (h1 : zai (M a) (dA 0) i) (h : (zJ p l e R s m args below meth c Q nL z D) (pc + 1) loc (.int (zaf (M a) i.toNatClampNeg) :: r) M k n) : (zJ p l e R s m args below meth c Q nL z D) pc loc (.int i :: .ref a :: r) M k n := by
  intro H locs ls hv hz hS hl
  obtain ⟨nn, f, e2, hi⟩ := zai_sp h1
  rw [e2] at h
  obtain ⟨ws, hP, hD, hin, -⟩ := zv_ws hv hz
  obtain ⟨j, hj⟩ := hin a _ e2
  exact va_iald C.1 C.2.1 C.2.2.2.2.2.2.1 hP j 0 hj rfl hi hd (h H locs ls hv hz hS hl)
theorem zJ_iast {a : Nat} {i x : Int32} (C : zC p s m args meth c own cc nL z D dA ini) (hd : decode cc pc = .ok (.iastore, 1)) (h1 : zai (M a) (dA 0) i) (h : (zJ p l e R s m args below meth c Q nL z D) (pc + 1) loc r (zu M a (zaw (M a) i.toNatClampNeg x)) k n) : (zJ p l e R s m args below meth c Q nL z D) pc loc (.int x :: .int i :: .ref a :: r) M k n := by
  intro H locs ls hv hz hS hl
  obtain ⟨nn, f, e2, hi⟩ := zai_sp h1
  rw [e2] at h
  obtain ⟨ws, hP, hD, hin, hset, -⟩ := zv_ws hv hz
  obtain ⟨j, hj⟩ := hin a _ e2
  exact va_iast C.1 C.2.1 C.2.2.2.2.2.2.1 hP hD hS j 0 hj rfl hi hd (fun H1 locs1 hP1 hD1 hS1 => h H1 locs1 ls (hset j a _ _ H1 hj hP1) (zhd_u hz (hz a _ e2)) hS1 hl)
theorem zJ_zald {a : Nat} {i : Int32} (C : zC p s m args meth c own cc nL z D dA ini) (hd : decode cc pc = .ok (.baload, 1)) (h1 : zai (M a) (dA 4) i) (h : (zJ p l e R s m args below meth c Q nL z D) (pc + 1) loc (.int (zaf (M a) i.toNatClampNeg) :: r) M k n) : (zJ p l e R s m args below meth c Q nL z D) pc loc (.int i :: .ref a :: r) M k n := by
  intro H locs ls hv hz hS hl
  obtain ⟨nn, f, e2, hi⟩ := zai_sp h1
  rw [e2] at h
  obtain ⟨ws, hP, hD, hin, -⟩ := zv_ws hv hz
  obtain ⟨j, hj⟩ := hin a _ e2
  exact va_zald C.1 C.2.1 C.2.2.2.2.2.2.1 hP j 4 hj rfl hi hd (h H locs ls hv hz hS hl)
theorem z_narb {x : Int32} (h : x = 0 ∨ x = 1) : vp_nar .boolean x = x := by
  rcases h with rfl | rfl
  · decide +kernel
  · decide +kernel
theorem zJ_zast {a : Nat} {i x : Int32} (C : zC p s m args meth c own cc nL z D dA ini) (hd : decode cc pc = .ok (.bastore, 1)) (h1 : zai (M a) (dA 4) i) (hx : x = 0 ∨ x = 1) (h : (zJ p l e R s m args below meth c Q nL z D) (pc + 1) loc r (zu M a (zaw (M a) i.toNatClampNeg x)) k n) : (zJ p l e R s m args below meth c Q nL z D) pc loc (.int x :: .int i :: .ref a :: r) M k n := by
  intro H locs ls hv hz hS hl
  obtain ⟨nn, f, e2, hi⟩ := zai_sp h1
  rw [e2] at h
  obtain ⟨ws, hP, hD, hin, hset, -⟩ := zv_ws hv hz
  obtain ⟨j, hj⟩ := hin a _ e2
  exact va_zast C.1 C.2.1 C.2.2.2.2.2.2.1 hP hD hS j 4 hj rfl hi hd (fun H1 locs1 hP1 hD1 hS1 => h H1 locs1 ls (hset j a _ _ H1 hj (by rw [z_narb hx] at hP1; exact hP1)) (zhd_u hz (hz a _ e2)) hS1 hl)
theorem zaL_sp {o : Option va_E} {cA : ClassId} {i : Int32} (h : zaL o cA i) : ∃ nn f, o = some (.inl (cA, nn, .inr (.inl f))) ∧ vp_in i nn := by
  rcases o with _ | (⟨c, nn, f | f | f⟩ | q)
  · exact h.elim
  · exact h.elim
  · obtain ⟨rfl, h2⟩ := h
    exact ⟨nn, f, rfl, h2⟩
  · exact h.elim
  · exact h.elim
theorem zJ_lald {a : Nat} {i : Int32} (C : zC p s m args meth c own cc nL z D dA ini) (hd : decode cc pc = .ok (.laload, 1)) (h1 : zaL (M a) (dA 3) i) (h : (zJ p l e R s m args below meth c Q nL z D) (pc + 1) loc (.long (zLf (M a) i.toNatClampNeg) :: r) M k n) : (zJ p l e R s m args below meth c Q nL z D) pc loc (.int i :: .ref a :: r) M k n := by
  intro H locs ls hv hz hS hl
  obtain ⟨nn, f, e2, hi⟩ := zaL_sp h1
  rw [e2] at h
  obtain ⟨ws, hP, hD, hin, -⟩ := zv_ws hv hz
  obtain ⟨j, hj⟩ := hin a _ e2
  exact va_lald C.1 C.2.1 C.2.2.2.2.2.2.1 hP j 3 hj rfl hi hd (h H locs ls hv hz hS hl)
theorem zJ_last {a : Nat} {i : Int32} {x : Int64} (C : zC p s m args meth c own cc nL z D dA ini) (hd : decode cc pc = .ok (.lastore, 1)) (h1 : zaL (M a) (dA 3) i) (h : (zJ p l e R s m args below meth c Q nL z D) (pc + 1) loc r (zu M a (zLw (M a) i.toNatClampNeg x)) k n) : (zJ p l e R s m args below meth c Q nL z D) pc loc (.long x :: .int i :: .ref a :: r) M k n := by
  intro H locs ls hv hz hS hl
  obtain ⟨nn, f, e2, hi⟩ := zaL_sp h1
  rw [e2] at h
  obtain ⟨ws, hP, hD, hin, hset, -⟩ := zv_ws hv hz
  obtain ⟨j, hj⟩ := hin a _ e2
  exact va_last C.1 C.2.1 C.2.2.2.2.2.2.1 hP hD hS j 3 hj rfl hi hd (fun H1 locs1 hP1 hD1 hS1 => h H1 locs1 ls (hset j a _ _ H1 hj hP1) (zhd_u hz (hz a _ e2)) hS1 hl)
theorem zJ_alen {a : Nat} (C : zC p s m args meth c own cc nL z D dA ini) (hd : decode cc pc = .ok (.arraylength, 1)) (h1 : zal dA (M a)) (h : (zJ p l e R s m args below meth c Q nL z D) (pc + 1) loc (.int (Int32.ofNat (zan (M a))) :: r) M k n) : (zJ p l e R s m args below meth c Q nL z D) pc loc (.ref a :: r) M k n := by
  intro H locs ls hv hz hS hl
  cases e2 : M a with
  | none => rw [e2] at h1; exact h1.elim
  | some q =>
    rcases q with ⟨cA, nn, f⟩ | q
    · rw [e2] at h1 h
      obtain ⟨t, ty, ht⟩ := h1
      obtain ⟨ws, hP, hD, hin, -⟩ := zv_ws hv hz
      obtain ⟨j, hj⟩ := hin a _ e2
      exact va_alen C.1 C.2.1 C.2.2.2.2.2.2.1 hP j t hj ht rfl hd (h H locs ls hv hz hS hl)
    · rw [e2] at h1; exact h1.elim
theorem zaq_sp {o : Option va_E} {i : Int32} (h : zaq dA o i) : ∃ (cA : ClassId) (nn : Nat) (f : Nat → Option Nat) (t : Nat) (C : String), o = some (.inl (cA, nn, .inr (.inr (.inr (.inr f))))) ∧ (kt dA)[t]? = some (cA, .object C) ∧ vp_in i nn := by
  rcases o with _ | (⟨c, nn, f | f | f | f | f⟩ | q)
  · exact h.elim
  · exact h.elim
  · exact h.elim
  · exact h.elim
  · exact h.elim
  · obtain ⟨⟨t, C, h1⟩, h2⟩ := h
    exact ⟨c, nn, f, t, C, rfl, h1, h2⟩
  · exact h.elim
theorem zJ_aald {a : Nat} {i : Int32} (C : zC p s m args meth c own cc nL z D dA ini) (hd : decode cc pc = .ok (.aaload, 1)) (h1 : zaq dA (M a) i) (h : (zJ p l e R s m args below meth c Q nL z D) (pc + 1) loc (va_rf (zag (M a) i.toNatClampNeg) :: r) M k n) : (zJ p l e R s m args below meth c Q nL z D) pc loc (.int i :: .ref a :: r) M k n := by
  intro H locs ls hv hz hS hl
  obtain ⟨cA, nn, f, t, C0, e2, ht, hi⟩ := zaq_sp h1
  rw [e2] at h
  obtain ⟨ws, hP, hD, hin, -⟩ := zv_ws hv hz
  obtain ⟨j, hj⟩ := hin a _ e2
  exact va_aldq C.1 C.2.1 C.2.2.2.2.2.2.1 hP j t hj ht hi hd (h H locs ls hv hz hS hl)
/-- the returns: what a contract's end gives -/
def zRet (rt : Nat) (JK : zK) (cc : ByteArray) (post : Option Value → zVw → Nat → Nat → Prop) : Prop :=
  (∀ (v : Int32) {pc k n : Nat} {loc : List (Nat × Value)} {M : zVw}, zri rt v → post (some (.int v)) M k n → decode cc pc = .ok (.ireturn, 1) → JK pc loc [.int v] M k n) ∧
  (∀ (o : Option Nat) {pc k n : Nat} {loc : List (Nat × Value)} {M : zVw}, rt = 3 → post (some (va_rf o)) M k n → decode cc pc = .ok (.areturn, 1) → JK pc loc [va_rf o] M k n) ∧
  (∀ {pc k n : Nat} {loc : List (Nat × Value)} {M : zVw}, rt = 0 → post none M k n → decode cc pc = .ok (.return_, 1) → JK pc loc [] M k n) ∧
  (∀ (v : Int64) {pc k n : Nat} {loc : List (Nat × Value)} {M : zVw}, rt = 4 → post (some (.long v)) M k n → decode cc pc = .ok (.lreturn, 1) → JK pc loc [.long v] M k n)
theorem zst5_ok (C : zC p s m args meth c own cc nL z D dA ini) (L : zlk own fl lc ll) (hK : ∀ pc loc st M k n, K pc loc st M k n → (zJ p l e R s m args below meth c Q nL z D) pc loc st M k n) (hR : zRet rt (zJ p l e R s m args below meth c Q nL z D) cc post) {i : Instr} {len : Nat} {st : List Value} (hd : decode cc pc = .ok (i, len)) (hln : zlb i len = true) (h : zst5 fl lc ll dA rt ini nL (zJ p l e R s m args below meth c Q nL z D) K post i len pc loc st M k n) : (zJ p l e R s m args below meth c Q nL z D) pc loc st M k n := by
  unfold zst5 at h
  split at h
  · have hln : (len == 1) = true := hln
    have hln : len = 1 := by simpa using hln
    subst hln
    split at h
    · intro H locs ls hv hz hS hl
      exact hR.2.1 (some _) h.1 h.2 hd H locs ls hv hz hS hl
    · intro H locs ls hv hz hS hl
      exact hR.2.1 none h.1 h.2 hd H locs ls hv hz hS hl
    · exact h.elim
  · have hln : (len == 1) = true := hln
    have hln : len = 1 := by simpa using hln
    subst hln
    split at h
    · intro H locs ls hv hz hS hl
      exact hR.2.2.1 h.1 h.2 hd H locs ls hv hz hS hl
    · exact h.elim
  · exact h
theorem zst4_ok (C : zC p s m args meth c own cc nL z D dA ini) (L : zlk own fl lc ll) (hK : ∀ pc loc st M k n, K pc loc st M k n → (zJ p l e R s m args below meth c Q nL z D) pc loc st M k n) (hR : zRet rt (zJ p l e R s m args below meth c Q nL z D) cc post) {i : Instr} {len : Nat} {st : List Value} (hd : decode cc pc = .ok (i, len)) (hln : zlb i len = true) (h : zst4 fl lc ll dA rt ini nL (zJ p l e R s m args below meth c Q nL z D) K post i len pc loc st M k n) : (zJ p l e R s m args below meth c Q nL z D) pc loc st M k n := by
  unfold zst4 at h
  split at h
  · skip
    split at h
    · intro H locs ls hv hz hS hl
      exact zJ_tsw C hd h.1 (fun hc => ⟨(h.2.1 hc).1, hK _ _ _ _ _ _ (h.2.1 hc).2⟩) (zswl_mono (fun t ht => hK _ _ _ _ _ _ ht) h.2.2) H locs ls hv hz hS hl
    · exact h.elim
  · have hln : (len == 3) = true := hln
    have hln : len = 3 := by simpa using hln
    subst hln
    · intro H locs ls hv hz hS hl
      obtain ⟨h1, h2, h⟩ := h
      obtain ⟨w, hw⟩ := zsI_sp h1
      rw [hw] at h
      exact zJ_iinc C hd hw h2 (hK _ _ _ _ _ _ h) H locs ls hv hz hS hl
  · have hln : (len == 3) = true := hln
    have hln : len = 3 := by simpa using hln
    subst hln
    split at h
    · intro H locs ls hv hz hS hl
      exact zJ_get C L.1 hd h.1 (hK _ _ _ _ _ _ h.2) H locs ls hv hz hS hl
    · exact h.elim
  · have hln : (len == 3) = true := hln
    have hln : len = 3 := by simpa using hln
    subst hln
    split at h
    · intro H locs ls hv hz hS hl
      exact zJ_put C L.1 hd h.1 h.2.1 (hK _ _ _ _ _ _ h.2.2) H locs ls hv hz hS hl
    · exact h.elim
  · have hln : (len == 1) = true := hln
    have hln : len = 1 := by simpa using hln
    subst hln
    split at h
    · intro H locs ls hv hz hS hl
      exact zJ_iald C hd h.1 (hK _ _ _ _ _ _ h.2) H locs ls hv hz hS hl
    · exact h.elim
  · have hln : (len == 1) = true := hln
    have hln : len = 1 := by simpa using hln
    subst hln
    split at h
    · intro H locs ls hv hz hS hl
      exact zJ_iast C hd h.1 (hK _ _ _ _ _ _ h.2) H locs ls hv hz hS hl
    · exact h.elim
  · have hln : (len == 1) = true := hln
    have hln : len = 1 := by simpa using hln
    subst hln
    split at h
    · intro H locs ls hv hz hS hl
      exact zJ_lald C hd h.1 (hK _ _ _ _ _ _ h.2) H locs ls hv hz hS hl
    · exact h.elim
  · have hln : (len == 1) = true := hln
    have hln : len = 1 := by simpa using hln
    subst hln
    split at h
    · intro H locs ls hv hz hS hl
      exact zJ_last C hd h.1 (hK _ _ _ _ _ _ h.2) H locs ls hv hz hS hl
    · exact h.elim
  · have hln : (len == 1) = true := hln
    have hln : len = 1 := by simpa using hln
    subst hln
    split at h
    · intro H locs ls hv hz hS hl
      exact zJ_zald C hd h.1 (hK _ _ _ _ _ _ h.2) H locs ls hv hz hS hl
    · exact h.elim
  · have hln : (len == 1) = true := hln
    have hln : len = 1 := by simpa using hln
    subst hln
    split at h
    · intro H locs ls hv hz hS hl
      exact zJ_zast C hd h.1 h.2.1 (hK _ _ _ _ _ _ h.2.2) H locs ls hv hz hS hl
    · exact h.elim
  · have hln : (len == 1) = true := hln
    have hln : len = 1 := by simpa using hln
    subst hln
    split at h
    · intro H locs ls hv hz hS hl
      exact zJ_alen C hd h.1 (hK _ _ _ _ _ _ h.2) H locs ls hv hz hS hl
    · exact h.elim
  · have hln : (len == 1) = true := hln
    have hln : len = 1 := by simpa using hln
    subst hln
    split at h
    · intro H locs ls hv hz hS hl
      exact zJ_aald C hd h.1 (hK _ _ _ _ _ _ h.2) H locs ls hv hz hS hl
    · exact h.elim
  · have hln : (len == 1) = true := hln
    have hln : len = 1 := by simpa using hln
    subst hln
    split at h
    · intro H locs ls hv hz hS hl
      exact hR.1 _ h.1 h.2 hd H locs ls hv hz hS hl
    · exact h.elim
  · have hln : (len == 1) = true := hln
    have hln : len = 1 := by simpa using hln
    subst hln
    split at h
    · intro H locs ls hv hz hS hl
      exact hR.2.2.2 _ h.1 h.2 hd H locs ls hv hz hS hl
    · exact h.elim
  · exact zst5_ok C L hK hR hd hln h
theorem zst3_ok (C : zC p s m args meth c own cc nL z D dA ini) (L : zlk own fl lc ll) (hK : ∀ pc loc st M k n, K pc loc st M k n → (zJ p l e R s m args below meth c Q nL z D) pc loc st M k n) (hR : zRet rt (zJ p l e R s m args below meth c Q nL z D) cc post) {i : Instr} {len : Nat} {st : List Value} (hd : decode cc pc = .ok (i, len)) (hln : zlb i len = true) (h : zst3 fl lc ll dA rt ini nL (zJ p l e R s m args below meth c Q nL z D) K post i len pc loc st M k n) : (zJ p l e R s m args below meth c Q nL z D) pc loc st M k n := by
  unfold zst3 at h
  split at h
  · have hln : (len == 3) = true := hln
    have hln : len = 3 := by simpa using hln
    subst hln
    split at h
    · intro H locs ls hv hz hS hl
      exact lv_if_ne C.1 C.2.1 hd (zt_ok h.1) (fun hc => hK _ _ _ _ _ _ (h.2.1 hc) H locs ls hv hz hS hl) (fun hc => hK _ _ _ _ _ _ (h.2.2 hc) H locs ls hv hz hS hl)
    · exact h.elim
  · have hln : (len == 3) = true := hln
    have hln : len = 3 := by simpa using hln
    subst hln
    split at h
    · intro H locs ls hv hz hS hl
      exact lv_if_lt C.1 C.2.1 hd (zt_ok h.1) (fun hc => hK _ _ _ _ _ _ (h.2.1 hc) H locs ls hv hz hS hl) (fun hc => hK _ _ _ _ _ _ (h.2.2 hc) H locs ls hv hz hS hl)
    · exact h.elim
  · have hln : (len == 3) = true := hln
    have hln : len = 3 := by simpa using hln
    subst hln
    split at h
    · intro H locs ls hv hz hS hl
      exact lv_if_ge C.1 C.2.1 hd (zt_ok h.1) (fun hc => hK _ _ _ _ _ _ (h.2.1 hc) H locs ls hv hz hS hl) (fun hc => hK _ _ _ _ _ _ (h.2.2 hc) H locs ls hv hz hS hl)
    · exact h.elim
  · have hln : (len == 3) = true := hln
    have hln : len = 3 := by simpa using hln
    subst hln
    split at h
    · intro H locs ls hv hz hS hl
      exact lv_if_gt C.1 C.2.1 hd (zt_ok h.1) (fun hc => hK _ _ _ _ _ _ (h.2.1 hc) H locs ls hv hz hS hl) (fun hc => hK _ _ _ _ _ _ (h.2.2 hc) H locs ls hv hz hS hl)
    · exact h.elim
  · have hln : (len == 3) = true := hln
    have hln : len = 3 := by simpa using hln
    subst hln
    split at h
    · intro H locs ls hv hz hS hl
      exact lv_if_le C.1 C.2.1 hd (zt_ok h.1) (fun hc => hK _ _ _ _ _ _ (h.2.1 hc) H locs ls hv hz hS hl) (fun hc => hK _ _ _ _ _ _ (h.2.2 hc) H locs ls hv hz hS hl)
    · exact h.elim
  · have hln : (len == 3) = true := hln
    have hln : len = 3 := by simpa using hln
    subst hln
    split at h
    · intro H locs ls hv hz hS hl
      exact lv_icmp_eq C.1 C.2.1 hd (zt_ok h.1) (fun hc => hK _ _ _ _ _ _ (h.2.1 hc) H locs ls hv hz hS hl) (fun hc => hK _ _ _ _ _ _ (h.2.2 hc) H locs ls hv hz hS hl)
    · exact h.elim
  · have hln : (len == 3) = true := hln
    have hln : len = 3 := by simpa using hln
    subst hln
    split at h
    · intro H locs ls hv hz hS hl
      exact lv_icmp_ne C.1 C.2.1 hd (zt_ok h.1) (fun hc => hK _ _ _ _ _ _ (h.2.1 hc) H locs ls hv hz hS hl) (fun hc => hK _ _ _ _ _ _ (h.2.2 hc) H locs ls hv hz hS hl)
    · exact h.elim
  · have hln : (len == 3) = true := hln
    have hln : len = 3 := by simpa using hln
    subst hln
    split at h
    · intro H locs ls hv hz hS hl
      exact lv_icmp_lt C.1 C.2.1 hd (zt_ok h.1) (fun hc => hK _ _ _ _ _ _ (h.2.1 hc) H locs ls hv hz hS hl) (fun hc => hK _ _ _ _ _ _ (h.2.2 hc) H locs ls hv hz hS hl)
    · exact h.elim
  · have hln : (len == 3) = true := hln
    have hln : len = 3 := by simpa using hln
    subst hln
    split at h
    · intro H locs ls hv hz hS hl
      exact lv_icmp_ge C.1 C.2.1 hd (zt_ok h.1) (fun hc => hK _ _ _ _ _ _ (h.2.1 hc) H locs ls hv hz hS hl) (fun hc => hK _ _ _ _ _ _ (h.2.2 hc) H locs ls hv hz hS hl)
    · exact h.elim
  · have hln : (len == 3) = true := hln
    have hln : len = 3 := by simpa using hln
    subst hln
    split at h
    · intro H locs ls hv hz hS hl
      exact lv_icmp_gt C.1 C.2.1 hd (zt_ok h.1) (fun hc => hK _ _ _ _ _ _ (h.2.1 hc) H locs ls hv hz hS hl) (fun hc => hK _ _ _ _ _ _ (h.2.2 hc) H locs ls hv hz hS hl)
    · exact h.elim
  · have hln : (len == 3) = true := hln
    have hln : len = 3 := by simpa using hln
    subst hln
    split at h
    · intro H locs ls hv hz hS hl
      exact lv_icmp_le C.1 C.2.1 hd (zt_ok h.1) (fun hc => hK _ _ _ _ _ _ (h.2.1 hc) H locs ls hv hz hS hl) (fun hc => hK _ _ _ _ _ _ (h.2.2 hc) H locs ls hv hz hS hl)
    · exact h.elim
  · have hln : (len == 3) = true := hln
    have hln : len = 3 := by simpa using hln
    subst hln
    split at h
    · intro H locs ls hv hz hS hl
      exact lv_ifnull C.1 C.2.1 hd (hK _ _ _ _ _ _ h H locs ls hv hz hS hl)
    · intro H locs ls hv hz hS hl
      exact lv_ifnullN C.1 C.2.1 hd (zt_ok h.1) (hK _ _ _ _ _ _ h.2 H locs ls hv hz hS hl)
    · exact h.elim
  · have hln : (len == 3) = true := hln
    have hln : len = 3 := by simpa using hln
    subst hln
    split at h
    · intro H locs ls hv hz hS hl
      exact lv_ifnonnull C.1 C.2.1 hd (zt_ok h.1) (hK _ _ _ _ _ _ h.2 H locs ls hv hz hS hl)
    · intro H locs ls hv hz hS hl
      exact lv_ifnonnullN C.1 C.2.1 hd (hK _ _ _ _ _ _ h H locs ls hv hz hS hl)
    · exact h.elim
  · have hln : (len == 3) = true := hln
    have hln : len = 3 := by simpa using hln
    subst hln
    · intro H locs ls hv hz hS hl
      exact lv_goto C.1 C.2.1 hd (zt_ok h.1) (hK _ _ _ _ _ _ h.2 H locs ls hv hz hS hl)
  · exact zst4_ok C L hK hR hd hln h
theorem zst2_ok (C : zC p s m args meth c own cc nL z D dA ini) (L : zlk own fl lc ll) (hK : ∀ pc loc st M k n, K pc loc st M k n → (zJ p l e R s m args below meth c Q nL z D) pc loc st M k n) (hR : zRet rt (zJ p l e R s m args below meth c Q nL z D) cc post) {i : Instr} {len : Nat} {st : List Value} (hd : decode cc pc = .ok (i, len)) (hln : zlb i len = true) (h : zst2 fl lc ll dA rt ini nL (zJ p l e R s m args below meth c Q nL z D) K post i len pc loc st M k n) : (zJ p l e R s m args below meth c Q nL z D) pc loc st M k n := by
  unfold zst2 at h
  split at h
  · have hln : (len == 1) = true := hln
    have hln : len = 1 := by simpa using hln
    subst hln
    split at h
    · intro H locs ls hv hz hS hl
      exact lv_lsub C.1 C.2.1 hd (hK _ _ _ _ _ _ h H locs ls hv hz hS hl)
    · exact h.elim
  · have hln : (len == 1) = true := hln
    have hln : len = 1 := by simpa using hln
    subst hln
    split at h
    · intro H locs ls hv hz hS hl
      exact lv_lmul C.1 C.2.1 hd (hK _ _ _ _ _ _ h H locs ls hv hz hS hl)
    · exact h.elim
  · have hln : (len == 1) = true := hln
    have hln : len = 1 := by simpa using hln
    subst hln
    split at h
    · intro H locs ls hv hz hS hl
      exact lv_land C.1 C.2.1 hd (hK _ _ _ _ _ _ h H locs ls hv hz hS hl)
    · exact h.elim
  · have hln : (len == 1) = true := hln
    have hln : len = 1 := by simpa using hln
    subst hln
    split at h
    · intro H locs ls hv hz hS hl
      exact lv_lor C.1 C.2.1 hd (hK _ _ _ _ _ _ h H locs ls hv hz hS hl)
    · exact h.elim
  · have hln : (len == 1) = true := hln
    have hln : len = 1 := by simpa using hln
    subst hln
    split at h
    · intro H locs ls hv hz hS hl
      exact lv_ldiv C.1 C.2.1 hd h.1 (hK _ _ _ _ _ _ h.2 H locs ls hv hz hS hl)
    · exact h.elim
  · have hln : (len == 1) = true := hln
    have hln : len = 1 := by simpa using hln
    subst hln
    split at h
    · intro H locs ls hv hz hS hl
      exact W.lcmp C.1 C.2.1 hd (hK _ _ _ _ _ _ h H locs ls hv hz hS hl)
    · exact h.elim
  · have hln : (len == 1) = true := hln
    have hln : len = 1 := by simpa using hln
    subst hln
    split at h
    · intro H locs ls hv hz hS hl
      exact lv_i2l C.1 C.2.1 hd rfl (hK _ _ _ _ _ _ h H locs ls hv hz hS hl)
    · exact h.elim
  · have hln : (len == 1) = true := hln
    have hln : len = 1 := by simpa using hln
    subst hln
    split at h
    · intro H locs ls hv hz hS hl
      exact lv_l2i C.1 C.2.1 hd rfl (hK _ _ _ _ _ _ h H locs ls hv hz hS hl)
    · exact h.elim
  · have hln : (len == 1) = true := hln
    have hln : len = 1 := by simpa using hln
    subst hln
    split at h
    · intro H locs ls hv hz hS hl
      exact lv_lshl C.1 C.2.1 hd rfl (hK _ _ _ _ _ _ h H locs ls hv hz hS hl)
    · exact h.elim
  · have hln : (len == 1) = true := hln
    have hln : len = 1 := by simpa using hln
    subst hln
    split at h
    · intro H locs ls hv hz hS hl
      exact lv_dup C.1 C.2.1 hd rfl (hK _ _ _ _ _ _ h H locs ls hv hz hS hl)
    · intro H locs ls hv hz hS hl
      exact lv_dup C.1 C.2.1 hd rfl (hK _ _ _ _ _ _ h H locs ls hv hz hS hl)
    · exact h.elim
  · have hln : (len == 1) = true := hln
    have hln : len = 1 := by simpa using hln
    subst hln
    split at h
    · intro H locs ls hv hz hS hl
      exact lv_pop C.1 C.2.1 hd rfl (hK _ _ _ _ _ _ h H locs ls hv hz hS hl)
    · intro H locs ls hv hz hS hl
      exact lv_pop C.1 C.2.1 hd rfl (hK _ _ _ _ _ _ h H locs ls hv hz hS hl)
    · intro H locs ls hv hz hS hl
      exact lv_pop C.1 C.2.1 hd rfl (hK _ _ _ _ _ _ h H locs ls hv hz hS hl)
    · exact h.elim
  · have hln : (len == 1) = true := hln
    have hln : len = 1 := by simpa using hln
    subst hln
    split at h
    · intro H locs ls hv hz hS hl
      exact lv_dup_x1 C.1 C.2.1 hd rfl rfl (hK _ _ _ _ _ _ h H locs ls hv hz hS hl)
    · intro H locs ls hv hz hS hl
      exact lv_dup_x1 C.1 C.2.1 hd rfl rfl (hK _ _ _ _ _ _ h H locs ls hv hz hS hl)
    · exact h.elim
  · have hln : (len == 1) = true := hln
    have hln : len = 1 := by simpa using hln
    subst hln
    split at h
    · intro H locs ls hv hz hS hl
      exact lv_dup2_11 C.1 C.2.1 hd rfl rfl (hK _ _ _ _ _ _ h H locs ls hv hz hS hl)
    · exact h.elim
  · have hln : (len == 3) = true := hln
    have hln : len = 3 := by simpa using hln
    subst hln
    split at h
    · intro H locs ls hv hz hS hl
      exact lv_if_eq C.1 C.2.1 hd (zt_ok h.1) (fun hc => hK _ _ _ _ _ _ (h.2.1 hc) H locs ls hv hz hS hl) (fun hc => hK _ _ _ _ _ _ (h.2.2 hc) H locs ls hv hz hS hl)
    · exact h.elim
  · exact zst3_ok C L hK hR hd hln h
theorem zst1_ok (C : zC p s m args meth c own cc nL z D dA ini) (L : zlk own fl lc ll) (hK : ∀ pc loc st M k n, K pc loc st M k n → (zJ p l e R s m args below meth c Q nL z D) pc loc st M k n) (hR : zRet rt (zJ p l e R s m args below meth c Q nL z D) cc post) {i : Instr} {len : Nat} {st : List Value} (hd : decode cc pc = .ok (i, len)) (hln : zlb i len = true) (h : zst1 fl lc ll dA rt ini nL (zJ p l e R s m args below meth c Q nL z D) K post i len pc loc st M k n) : (zJ p l e R s m args below meth c Q nL z D) pc loc st M k n := by
  unfold zst1 at h
  split at h
  · have hln : (len == 1) = true := hln
    have hln : len = 1 := by simpa using hln
    subst hln
    split at h
    · intro H locs ls hv hz hS hl
      exact lv_astore_n C.1 C.2.1 hd rfl hl h.1 (congrArg (List.cons _) (zlr_eq _ _)) (fun ls' hl' => hK _ _ _ _ _ _ h.2 H locs ls' hv hz hS hl')
    · intro H locs ls hv hz hS hl
      exact lv_astore_nN C.1 C.2.1 hd rfl hl h.1 (congrArg (List.cons _) (zlr_eq _ _)) (fun ls' hl' => hK _ _ _ _ _ _ h.2 H locs ls' hv hz hS hl')
    · exact h.elim
  · have hln : (len == 2) = true := hln
    have hln : len = 2 := by simpa using hln
    subst hln
    split at h
    · intro H locs ls hv hz hS hl
      exact lv_istore C.1 C.2.1 hd hl h.1 (congrArg (List.cons _) (zlr_eq _ _)) (fun ls' hl' => hK _ _ _ _ _ _ h.2 H locs ls' hv hz hS hl')
    · exact h.elim
  · have hln : (len == 2) = true := hln
    have hln : len = 2 := by simpa using hln
    subst hln
    split at h
    · intro H locs ls hv hz hS hl
      exact lv_astore C.1 C.2.1 hd hl h.1 (congrArg (List.cons _) (zlr_eq _ _)) (fun ls' hl' => hK _ _ _ _ _ _ h.2 H locs ls' hv hz hS hl')
    · intro H locs ls hv hz hS hl
      exact lv_astoreN C.1 C.2.1 hd hl h.1 (congrArg (List.cons _) (zlr_eq _ _)) (fun ls' hl' => hK _ _ _ _ _ _ h.2 H locs ls' hv hz hS hl')
    · exact h.elim
  · have hln : (len == 1) = true := hln
    have hln : len = 1 := by simpa using hln
    subst hln
    split at h
    · intro H locs ls hv hz hS hl
      exact lv_lstore_n C.1 C.2.1 hd rfl hl h.1 (congrArg (List.cons _) (zl2_eq _ _)) (fun ls' hl' => hK _ _ _ _ _ _ h.2 H locs ls' hv hz hS hl')
    · exact h.elim
  · have hln : (len == 2) = true := hln
    have hln : len = 2 := by simpa using hln
    subst hln
    split at h
    · intro H locs ls hv hz hS hl
      exact lv_lstore C.1 C.2.1 hd hl h.1 (congrArg (List.cons _) (zl2_eq _ _)) (fun ls' hl' => hK _ _ _ _ _ _ h.2 H locs ls' hv hz hS hl')
    · exact h.elim
  · have hln : (len == 1) = true := hln
    have hln : len = 1 := by simpa using hln
    subst hln
    split at h
    · intro H locs ls hv hz hS hl
      exact lv_iadd C.1 C.2.1 hd (hK _ _ _ _ _ _ h H locs ls hv hz hS hl)
    · exact h.elim
  · have hln : (len == 1) = true := hln
    have hln : len = 1 := by simpa using hln
    subst hln
    split at h
    · intro H locs ls hv hz hS hl
      exact lv_isub C.1 C.2.1 hd (hK _ _ _ _ _ _ h H locs ls hv hz hS hl)
    · exact h.elim
  · have hln : (len == 1) = true := hln
    have hln : len = 1 := by simpa using hln
    subst hln
    split at h
    · intro H locs ls hv hz hS hl
      exact lv_ishr C.1 C.2.1 hd (hK _ _ _ _ _ _ h H locs ls hv hz hS hl)
    · exact h.elim
  · have hln : (len == 1) = true := hln
    have hln : len = 1 := by simpa using hln
    subst hln
    split at h
    · intro H locs ls hv hz hS hl
      exact lv_imul C.1 C.2.1 hd (hK _ _ _ _ _ _ h H locs ls hv hz hS hl)
    · exact h.elim
  · have hln : (len == 1) = true := hln
    have hln : len = 1 := by simpa using hln
    subst hln
    split at h
    · intro H locs ls hv hz hS hl
      exact lv_iand C.1 C.2.1 hd (hK _ _ _ _ _ _ h H locs ls hv hz hS hl)
    · exact h.elim
  · have hln : (len == 1) = true := hln
    have hln : len = 1 := by simpa using hln
    subst hln
    split at h
    · intro H locs ls hv hz hS hl
      exact lv_idiv C.1 C.2.1 hd h.1 (hK _ _ _ _ _ _ h.2 H locs ls hv hz hS hl)
    · exact h.elim
  · have hln : (len == 1) = true := hln
    have hln : len = 1 := by simpa using hln
    subst hln
    split at h
    · intro H locs ls hv hz hS hl
      exact lv_irem C.1 C.2.1 hd h.1 (hK _ _ _ _ _ _ h.2 H locs ls hv hz hS hl)
    · exact h.elim
  · have hln : (len == 1) = true := hln
    have hln : len = 1 := by simpa using hln
    subst hln
    split at h
    · intro H locs ls hv hz hS hl
      exact lv_ineg C.1 C.2.1 hd (hK _ _ _ _ _ _ h H locs ls hv hz hS hl)
    · exact h.elim
  · have hln : (len == 1) = true := hln
    have hln : len = 1 := by simpa using hln
    subst hln
    split at h
    · intro H locs ls hv hz hS hl
      exact lv_ladd C.1 C.2.1 hd (hK _ _ _ _ _ _ h H locs ls hv hz hS hl)
    · exact h.elim
  · exact zst2_ok C L hK hR hd hln h
theorem zst0_ok (C : zC p s m args meth c own cc nL z D dA ini) (L : zlk own fl lc ll) (hK : ∀ pc loc st M k n, K pc loc st M k n → (zJ p l e R s m args below meth c Q nL z D) pc loc st M k n) (hR : zRet rt (zJ p l e R s m args below meth c Q nL z D) cc post) {i : Instr} {len : Nat} {st : List Value} (hd : decode cc pc = .ok (i, len)) (hln : zlb i len = true) (h : zst0 fl lc ll dA rt ini nL (zJ p l e R s m args below meth c Q nL z D) K post i len pc loc st M k n) : (zJ p l e R s m args below meth c Q nL z D) pc loc st M k n := by
  unfold zst0 at h
  split at h
  · have hln : (len == 1) = true := hln
    have hln : len = 1 := by simpa using hln
    subst hln
    · intro H locs ls hv hz hS hl
      exact lv_null C.1 C.2.1 hd (hK _ _ _ _ _ _ h H locs ls hv hz hS hl)
  · have hln : (len == 1) = true := hln
    have hln : len = 1 := by simpa using hln
    subst hln
    · intro H locs ls hv hz hS hl
      exact lv_iconst C.1 C.2.1 hd rfl (hK _ _ _ _ _ _ h H locs ls hv hz hS hl)
  · have hln : (len == 2) = true := hln
    have hln : len = 2 := by simpa using hln
    subst hln
    · intro H locs ls hv hz hS hl
      exact lv_bipush C.1 C.2.1 hd rfl (hK _ _ _ _ _ _ h H locs ls hv hz hS hl)
  · have hln : (len == 3) = true := hln
    have hln : len = 3 := by simpa using hln
    subst hln
    · intro H locs ls hv hz hS hl
      exact lv_sipush C.1 C.2.1 hd rfl (hK _ _ _ _ _ _ h H locs ls hv hz hS hl)
  · have hln : (len == 1) = true := hln
    have hln : len = 1 := by simpa using hln
    subst hln
    · intro H locs ls hv hz hS hl
      exact lv_lconst C.1 C.2.1 hd rfl (hK _ _ _ _ _ _ h H locs ls hv hz hS hl)
  · have hln : (len == 2) = true := hln
    have hln : len = 2 := by simpa using hln
    subst hln
    · intro H locs ls hv hz hS hl
      obtain ⟨h1, h⟩ := h
      obtain ⟨v, hv1⟩ := Option.isSome_iff_exists.mp h1
      rw [hv1] at h
      exact lv_ldc C.1 C.2.1 C.2.2.2.1 (C.2.2.2.2.1 _ (L.2.1 _ v hv1)) hd (hK _ _ _ _ _ _ h H locs ls hv hz hS hl)
  · have hln : (len == 3) = true := hln
    have hln : len = 3 := by simpa using hln
    subst hln
    · intro H locs ls hv hz hS hl
      obtain ⟨h1, h⟩ := h
      obtain ⟨v, hv1⟩ := Option.isSome_iff_exists.mp h1
      rw [hv1] at h
      exact lv_ldc2 C.1 C.2.1 C.2.2.2.1 (C.2.2.2.2.1 _ (L.2.2 _ v hv1)) hd (hK _ _ _ _ _ _ h H locs ls hv hz hS hl)
  · have hln : (len == 1) = true := hln
    have hln : len = 1 := by simpa using hln
    subst hln
    · intro H locs ls hv hz hS hl
      obtain ⟨h1, h⟩ := h
      obtain ⟨v, hv1⟩ := zsI_sp h1
      rw [hv1] at h
      exact lv_iload_n C.1 C.2.1 hd rfl (zlg_at hl hv1) (hK _ _ _ _ _ _ h H locs ls hv hz hS hl)
  · have hln : (len == 2) = true := hln
    have hln : len = 2 := by simpa using hln
    subst hln
    · intro H locs ls hv hz hS hl
      obtain ⟨h1, h⟩ := h
      obtain ⟨v, hv1⟩ := zsI_sp h1
      rw [hv1] at h
      exact lv_iload C.1 C.2.1 hd (zlg_at hl hv1) (hK _ _ _ _ _ _ h H locs ls hv hz hS hl)
  · have hln : (len == 1) = true := hln
    have hln : len = 1 := by simpa using hln
    subst hln
    · intro H locs ls hv hz hS hl
      obtain ⟨h1, h⟩ := h
      obtain ⟨v, hv1⟩ := zsL_sp h1
      rw [hv1] at h
      exact lv_lload_n C.1 C.2.1 hd rfl (zlg_at hl hv1) (hK _ _ _ _ _ _ h H locs ls hv hz hS hl)
  · have hln : (len == 2) = true := hln
    have hln : len = 2 := by simpa using hln
    subst hln
    · intro H locs ls hv hz hS hl
      obtain ⟨h1, h⟩ := h
      obtain ⟨v, hv1⟩ := zsL_sp h1
      rw [hv1] at h
      exact lv_lload C.1 C.2.1 hd (zlg_at hl hv1) (hK _ _ _ _ _ _ h H locs ls hv hz hS hl)
  · have hln : (len == 1) = true := hln
    have hln : len = 1 := by simpa using hln
    subst hln
    · intro H locs ls hv hz hS hl
      obtain ⟨h1, h⟩ := h
      rcases zsA_sp h1 with ⟨v, hv1⟩ | hv1
      · rw [hv1] at h
        exact lv_aload_n C.1 C.2.1 hd rfl (zlg_at hl hv1) (hK _ _ _ _ _ _ h H locs ls hv hz hS hl)
      · rw [hv1] at h
        exact lv_aload_nN C.1 C.2.1 hd rfl (zlg_at hl hv1) (hK _ _ _ _ _ _ h H locs ls hv hz hS hl)
  · have hln : (len == 2) = true := hln
    have hln : len = 2 := by simpa using hln
    subst hln
    · intro H locs ls hv hz hS hl
      obtain ⟨h1, h⟩ := h
      rcases zsA_sp h1 with ⟨v, hv1⟩ | hv1
      · rw [hv1] at h
        exact lv_aload C.1 C.2.1 hd (zlg_at hl hv1) (hK _ _ _ _ _ _ h H locs ls hv hz hS hl)
      · rw [hv1] at h
        exact lv_aloadN C.1 C.2.1 hd (zlg_at hl hv1) (hK _ _ _ _ _ _ h H locs ls hv hz hS hl)
  · have hln : (len == 1) = true := hln
    have hln : len = 1 := by simpa using hln
    subst hln
    split at h
    · intro H locs ls hv hz hS hl
      exact lv_istore_n C.1 C.2.1 hd rfl hl h.1 (congrArg (List.cons _) (zlr_eq _ _)) (fun ls' hl' => hK _ _ _ _ _ _ h.2 H locs ls' hv hz hS hl')
    · exact h.elim
  · exact zst1_ok C L hK hR hd hln h
def zsg (cut : Nat → Bool) (fl : Nat → Option (Nat × Nat × Nat)) (lc : Nat → Option Int32) (ll : Nat → Option Int64) (dA : Nat → ClassId) (rt : Nat) (ini : Bool) (nL : Nat) (Jk K : zK) (post : Option Value → zVw → Nat → Nat → Prop) : Except DecodeError (Instr × Nat) → zK
  | .ok (i, len) => fun pc loc st M k n => bif zlb i len then zst0 fl lc ll dA rt ini nL Jk K post i len pc loc st M k n else Jk pc loc st M k n
  | _ => fun _ _ _ _ _ _ => False
def zseg (cc : ByteArray) (cut : Nat → Bool) (fl : Nat → Option (Nat × Nat × Nat)) (lc : Nat → Option Int32) (ll : Nat → Option Int64) (dA : Nat → ClassId) (rt : Nat) (ini : Bool) (nL : Nat) (Jk : zK) (post : Option Value → zVw → Nat → Nat → Prop) : Nat → zK
  | 0 => Jk
  | f + 1 => fun pc loc st M k n => bif cut pc then Jk pc loc st M k n else zsg cut fl lc ll dA rt ini nL Jk (zseg cc cut fl lc ll dA rt ini nL Jk post f) post (decode cc pc) pc loc st M k n
theorem zsg_ok {cut : Nat → Bool} (C : zC p s m args meth c own cc nL z D dA ini) (L : zlk own fl lc ll) (hK : ∀ pc loc st M k n, K pc loc st M k n → (zJ p l e R s m args below meth c Q nL z D) pc loc st M k n) (hR : zRet rt (zJ p l e R s m args below meth c Q nL z D) cc post) {st : List Value} (h : zsg cut fl lc ll dA rt ini nL (zJ p l e R s m args below meth c Q nL z D) K post (decode cc pc) pc loc st M k n) : (zJ p l e R s m args below meth c Q nL z D) pc loc st M k n := by
  cases hd : decode cc pc with
  | error _ => rw [hd] at h; exact h.elim
  | ok q =>
    obtain ⟨i, len⟩ := q
    rw [hd] at h
    unfold zsg at h
    dsimp only at h
    cases hb : zlb i len with
    | false => rw [hb] at h; exact h
    | true =>
      rw [hb] at h
      exact zst0_ok C L hK hR hd hb h
theorem zseg_ok {cut : Nat → Bool} (C : zC p s m args meth c own cc nL z D dA ini) (L : zlk own fl lc ll) (hR : zRet rt (zJ p l e R s m args below meth c Q nL z D) cc post) : ∀ (f : Nat) (pc : Nat) (loc : List (Nat × Value)) (st : List Value) (M : zVw) (k n : Nat), zseg cc cut fl lc ll dA rt ini nL (zJ p l e R s m args below meth c Q nL z D) post f pc loc st M k n → (zJ p l e R s m args below meth c Q nL z D) pc loc st M k n
  | 0, _, _, _, _, _, _, h => h
  | f + 1, pc, loc, st, M, k, n, h => by
    unfold zseg at h
    cases hb : cut pc with
    | true => rw [hb] at h; exact h
    | false =>
      rw [hb] at h
      exact zsg_ok (cut := cut) C L (zseg_ok C L hR f) hR h
/-- from a place that may itself be a stop -/
theorem zgo {cut : Nat → Bool} (f : Nat) (C : zC p s m args meth c own cc nL z D dA ini) (L : zlk own fl lc ll) (hR : zRet rt (zJ p l e R s m args below meth c Q nL z D) cc post) {st : List Value} (h : zsg cut fl lc ll dA rt ini nL (zJ p l e R s m args below meth c Q nL z D) (zseg cc cut fl lc ll dA rt ini nL (zJ p l e R s m args below meth c Q nL z D) post f) post (decode cc pc) pc loc st M k n) : (zJ p l e R s m args below meth c Q nL z D) pc loc st M k n := zsg_ok (cut := cut) C L (zseg_ok C L hR f) hR h
end ZS
/-! rows for simp: each holds by rfl -/
section ZR
variable {cc : ByteArray} {cut : Nat → Bool} {fl : Nat → Option (Nat × Nat × Nat)} {lc : Nat → Option Int32} {ll : Nat → Option Int64} {dA : Nat → ClassId} {rt : Nat} {ini : Bool} {nL : Nat} {Jk K : zK} {post : Option Value → zVw → Nat → Nat → Prop} {pc k n len f : Nat} {loc : List (Nat × Value)} {st : List Value} {M : zVw}
theorem zs_null : zsg cut fl lc ll dA rt ini nL Jk K post (.ok (.aconst_null, 1)) pc loc st M k n = (K (pc + 1) loc (.null :: st) M k n) := rfl
theorem zs_iconst {v : Int} : zsg cut fl lc ll dA rt ini nL Jk K post (.ok (.iconst v, 1)) pc loc st M k n = (K (pc + 1) loc (.int (Int32.ofInt v) :: st) M k n) := rfl
theorem zs_bipush {v : Int} : zsg cut fl lc ll dA rt ini nL Jk K post (.ok (.bipush v, 2)) pc loc st M k n = (K (pc + 2) loc (.int (Int8.ofInt v).toInt32 :: st) M k n) := rfl
theorem zs_sipush {v : Int} : zsg cut fl lc ll dA rt ini nL Jk K post (.ok (.sipush v, 3)) pc loc st M k n = (K (pc + 3) loc (.int (Int16.ofInt v).toInt32 :: st) M k n) := rfl
theorem zs_lconst {v : Fin 2} : zsg cut fl lc ll dA rt ini nL Jk K post (.ok (.lconst v, 1)) pc loc st M k n = (K (pc + 1) loc (.long (Int64.ofNat (v : Nat)) :: st) M k n) := rfl
theorem zs_ldc {x : Nat} : zsg cut fl lc ll dA rt ini nL Jk K post (.ok (.ldc x, 2)) pc loc st M k n = ((lc x).isSome = true ∧ K (pc + 2) loc (.int ((lc x).getD 0) :: st) M k n) := rfl
theorem zs_ldc2 {x : Nat} : zsg cut fl lc ll dA rt ini nL Jk K post (.ok (.ldc2_w x, 3)) pc loc st M k n = ((ll x).isSome = true ∧ K (pc + 3) loc (.long ((ll x).getD 0) :: st) M k n) := rfl
theorem zs_iload_n {x : Fin 4} : zsg cut fl lc ll dA rt ini nL Jk K post (.ok (.iload_n x, 1)) pc loc st M k n = (zsI (zlg loc (zf4 x)) = true ∧ K (pc + 1) loc (zvo (zlg loc (zf4 x)) :: st) M k n) := rfl
theorem zs_iload {x : Nat} : zsg cut fl lc ll dA rt ini nL Jk K post (.ok (.iload x, 2)) pc loc st M k n = (zsI (zlg loc x) = true ∧ K (pc + 2) loc (zvo (zlg loc x) :: st) M k n) := rfl
theorem zs_lload_n {x : Fin 4} : zsg cut fl lc ll dA rt ini nL Jk K post (.ok (.lload_n x, 1)) pc loc st M k n = (zsL (zlg loc (zf4 x)) = true ∧ K (pc + 1) loc (zvo (zlg loc (zf4 x)) :: st) M k n) := rfl
theorem zs_lload {x : Nat} : zsg cut fl lc ll dA rt ini nL Jk K post (.ok (.lload x, 2)) pc loc st M k n = (zsL (zlg loc x) = true ∧ K (pc + 2) loc (zvo (zlg loc x) :: st) M k n) := rfl
theorem zs_aload_n {x : Fin 4} : zsg cut fl lc ll dA rt ini nL Jk K post (.ok (.aload_n x, 1)) pc loc st M k n = (zsA (zlg loc (zf4 x)) = true ∧ K (pc + 1) loc (zvo (zlg loc (zf4 x)) :: st) M k n) := rfl
theorem zs_aload {x : Nat} : zsg cut fl lc ll dA rt ini nL Jk K post (.ok (.aload x, 2)) pc loc st M k n = (zsA (zlg loc x) = true ∧ K (pc + 2) loc (zvo (zlg loc x) :: st) M k n) := rfl
theorem zs_istore_n {r : List Value} {v : Int32} {x : Fin 4} : zsg cut fl lc ll dA rt ini nL Jk K post (.ok (.istore_n x, 1)) pc loc (.int v :: r) M k n = ((zf4 x) < nL ∧ K (pc + 1) (((zf4 x), .int v) :: zlr loc (zf4 x)) r M k n) := rfl
theorem zs_astore_n0 {r : List Value} {v : Nat} {x : Fin 4} : zsg cut fl lc ll dA rt ini nL Jk K post (.ok (.astore_n x, 1)) pc loc (.ref v :: r) M k n = ((zf4 x) < nL ∧ K (pc + 1) (((zf4 x), .ref v) :: zlr loc (zf4 x)) r M k n) := rfl
theorem zs_astore_n1 {r : List Value} {x : Fin 4} : zsg cut fl lc ll dA rt ini nL Jk K post (.ok (.astore_n x, 1)) pc loc (.null :: r) M k n = ((zf4 x) < nL ∧ K (pc + 1) (((zf4 x), .null) :: zlr loc (zf4 x)) r M k n) := rfl
theorem zs_istore {r : List Value} {v : Int32} {x : Nat} : zsg cut fl lc ll dA rt ini nL Jk K post (.ok (.istore x, 2)) pc loc (.int v :: r) M k n = (x < nL ∧ K (pc + 2) ((x, .int v) :: zlr loc x) r M k n) := rfl
theorem zs_astore0 {r : List Value} {v : Nat} {x : Nat} : zsg cut fl lc ll dA rt ini nL Jk K post (.ok (.astore x, 2)) pc loc (.ref v :: r) M k n = (x < nL ∧ K (pc + 2) ((x, .ref v) :: zlr loc x) r M k n) := rfl
theorem zs_astore1 {r : List Value} {x : Nat} : zsg cut fl lc ll dA rt ini nL Jk K post (.ok (.astore x, 2)) pc loc (.null :: r) M k n = (x < nL ∧ K (pc + 2) ((x, .null) :: zlr loc x) r M k n) := rfl
theorem zs_lstore_n {r : List Value} {v : Int64} {x : Fin 4} : zsg cut fl lc ll dA rt ini nL Jk K post (.ok (.lstore_n x, 1)) pc loc (.long v :: r) M k n = ((zf4 x) + 1 < nL ∧ K (pc + 1) (((zf4 x), .long v) :: zl2 loc (zf4 x)) r M k n) := rfl
theorem zs_lstore {r : List Value} {v : Int64} {x : Nat} : zsg cut fl lc ll dA rt ini nL Jk K post (.ok (.lstore x, 2)) pc loc (.long v :: r) M k n = (x + 1 < nL ∧ K (pc + 2) ((x, .long v) :: zl2 loc x) r M k n) := rfl
theorem zs_iadd {r : List Value} {x : Int32} {y : Int32} : zsg cut fl lc ll dA rt ini nL Jk K post (.ok (.iadd, 1)) pc loc (.int y :: .int x :: r) M k n = (K (pc + 1) loc (.int (x + y) :: r) M k n) := rfl
theorem zs_isub {r : List Value} {x : Int32} {y : Int32} : zsg cut fl lc ll dA rt ini nL Jk K post (.ok (.isub, 1)) pc loc (.int y :: .int x :: r) M k n = (K (pc + 1) loc (.int (x - y) :: r) M k n) := rfl
theorem zs_ishr {r : List Value} {x : Int32} {y : Int32} : zsg cut fl lc ll dA rt ini nL Jk K post (.ok (.ishr, 1)) pc loc (.int y :: .int x :: r) M k n = (K (pc + 1) loc (.int (x >>> (y &&& 31)) :: r) M k n) := rfl
theorem zs_imul {r : List Value} {x : Int32} {y : Int32} : zsg cut fl lc ll dA rt ini nL Jk K post (.ok (.imul, 1)) pc loc (.int y :: .int x :: r) M k n = (K (pc + 1) loc (.int (x * y) :: r) M k n) := rfl
theorem zs_iand {r : List Value} {x : Int32} {y : Int32} : zsg cut fl lc ll dA rt ini nL Jk K post (.ok (.iand, 1)) pc loc (.int y :: .int x :: r) M k n = (K (pc + 1) loc (.int (x &&& y) :: r) M k n) := rfl
theorem zs_idiv {r : List Value} {x : Int32} {y : Int32} : zsg cut fl lc ll dA rt ini nL Jk K post (.ok (.idiv, 1)) pc loc (.int y :: .int x :: r) M k n = (¬ y = 0 ∧ K (pc + 1) loc (.int (x / y) :: r) M k n) := rfl
theorem zs_irem {r : List Value} {x : Int32} {y : Int32} : zsg cut fl lc ll dA rt ini nL Jk K post (.ok (.irem, 1)) pc loc (.int y :: .int x :: r) M k n = (¬ y = 0 ∧ K (pc + 1) loc (.int (x - x / y * y) :: r) M k n) := rfl
theorem zs_ineg {r : List Value} {x : Int32} : zsg cut fl lc ll dA rt ini nL Jk K post (.ok (.ineg, 1)) pc loc (.int x :: r) M k n = (K (pc + 1) loc (.int (-x) :: r) M k n) := rfl
theorem zs_ladd {r : List Value} {x : Int64} {y : Int64} : zsg cut fl lc ll dA rt ini nL Jk K post (.ok (.ladd, 1)) pc loc (.long y :: .long x :: r) M k n = (K (pc + 1) loc (.long (x + y) :: r) M k n) := rfl
theorem zs_lsub {r : List Value} {x : Int64} {y : Int64} : zsg cut fl lc ll dA rt ini nL Jk K post (.ok (.lsub, 1)) pc loc (.long y :: .long x :: r) M k n = (K (pc + 1) loc (.long (x - y) :: r) M k n) := rfl
theorem zs_lmul {r : List Value} {x : Int64} {y : Int64} : zsg cut fl lc ll dA rt ini nL Jk K post (.ok (.lmul, 1)) pc loc (.long y :: .long x :: r) M k n = (K (pc + 1) loc (.long (x * y) :: r) M k n) := rfl
theorem zs_land {r : List Value} {x : Int64} {y : Int64} : zsg cut fl lc ll dA rt ini nL Jk K post (.ok (.land, 1)) pc loc (.long y :: .long x :: r) M k n = (K (pc + 1) loc (.long (x &&& y) :: r) M k n) := rfl
theorem zs_lor {r : List Value} {x : Int64} {y : Int64} : zsg cut fl lc ll dA rt ini nL Jk K post (.ok (.lor, 1)) pc loc (.long y :: .long x :: r) M k n = (K (pc + 1) loc (.long (x ||| y) :: r) M k n) := rfl
theorem zs_ldiv {r : List Value} {x : Int64} {y : Int64} : zsg cut fl lc ll dA rt ini nL Jk K post (.ok (.ldiv, 1)) pc loc (.long y :: .long x :: r) M k n = (¬ y = 0 ∧ K (pc + 1) loc (.long (x / y) :: r) M k n) := rfl
theorem zs_lcmp {r : List Value} {x : Int64} {y : Int64} : zsg cut fl lc ll dA rt ini nL Jk K post (.ok (.lcmp, 1)) pc loc (.long y :: .long x :: r) M k n = (K (pc + 1) loc (.int (lg_cmp x y) :: r) M k n) := rfl
theorem zs_i2l {r : List Value} {x : Int32} : zsg cut fl lc ll dA rt ini nL Jk K post (.ok (.i2l, 1)) pc loc (.int x :: r) M k n = (K (pc + 1) loc (.long x.toInt64 :: r) M k n) := rfl
theorem zs_l2i {r : List Value} {x : Int64} : zsg cut fl lc ll dA rt ini nL Jk K post (.ok (.l2i, 1)) pc loc (.long x :: r) M k n = (K (pc + 1) loc (.int x.toInt32 :: r) M k n) := rfl
theorem zs_lshl {r : List Value} {x : Int64} {y : Int32} : zsg cut fl lc ll dA rt ini nL Jk K post (.ok (.lshl, 1)) pc loc (.int y :: .long x :: r) M k n = (K (pc + 1) loc (.long (x <<< (y.toInt64 &&& 63)) :: r) M k n) := rfl
theorem zs_dup0 {r : List Value} {x : Int32} : zsg cut fl lc ll dA rt ini nL Jk K post (.ok (.dup, 1)) pc loc (.int x :: r) M k n = (K (pc + 1) loc (.int x :: .int x :: r) M k n) := rfl
theorem zs_dup1 {r : List Value} {x : Nat} : zsg cut fl lc ll dA rt ini nL Jk K post (.ok (.dup, 1)) pc loc (.ref x :: r) M k n = (K (pc + 1) loc (.ref x :: .ref x :: r) M k n) := rfl
theorem zs_pop0 {r : List Value} {y0 : Int32} : zsg cut fl lc ll dA rt ini nL Jk K post (.ok (.pop, 1)) pc loc (.int y0 :: r) M k n = (K (pc + 1) loc r M k n) := rfl
theorem zs_pop1 {r : List Value} {x0 : Nat} : zsg cut fl lc ll dA rt ini nL Jk K post (.ok (.pop, 1)) pc loc (.ref x0 :: r) M k n = (K (pc + 1) loc r M k n) := rfl
theorem zs_pop2 {r : List Value} : zsg cut fl lc ll dA rt ini nL Jk K post (.ok (.pop, 1)) pc loc (.null :: r) M k n = (K (pc + 1) loc r M k n) := rfl
theorem zs_dup_x10 {r : List Value} {x : Int32} {y : Nat} : zsg cut fl lc ll dA rt ini nL Jk K post (.ok (.dup_x1, 1)) pc loc (.int x :: .ref y :: r) M k n = (K (pc + 1) loc (.int x :: .ref y :: .int x :: r) M k n) := rfl
theorem zs_dup_x11 {r : List Value} {x : Nat} {y : Nat} : zsg cut fl lc ll dA rt ini nL Jk K post (.ok (.dup_x1, 1)) pc loc (.ref x :: .ref y :: r) M k n = (K (pc + 1) loc (.ref x :: .ref y :: .ref x :: r) M k n) := rfl
theorem zs_dup2 {r : List Value} {x : Int32} {y : Nat} : zsg cut fl lc ll dA rt ini nL Jk K post (.ok (.dup2, 1)) pc loc (.int x :: .ref y :: r) M k n = (K (pc + 1) loc (.int x :: .ref y :: .int x :: .ref y :: r) M k n) := rfl
theorem zs_if_eq {off : Int} {r : List Value} {x : Int32} : zsg cut fl lc ll dA rt ini nL Jk K post (.ok (.ifCond .eq off, 3)) pc loc (.int x :: r) M k n = (zo pc off ∧ (x = 0 → K (zt pc off) loc r M k n) ∧ (¬ x = 0 → K (pc + 3) loc r M k n)) := rfl
theorem zs_if_ne {off : Int} {r : List Value} {x : Int32} : zsg cut fl lc ll dA rt ini nL Jk K post (.ok (.ifCond .ne off, 3)) pc loc (.int x :: r) M k n = (zo pc off ∧ (¬ x = 0 → K (zt pc off) loc r M k n) ∧ (x = 0 → K (pc + 3) loc r M k n)) := rfl
theorem zs_if_lt {off : Int} {r : List Value} {x : Int32} : zsg cut fl lc ll dA rt ini nL Jk K post (.ok (.ifCond .lt off, 3)) pc loc (.int x :: r) M k n = (zo pc off ∧ (x < 0 → K (zt pc off) loc r M k n) ∧ (¬ x < 0 → K (pc + 3) loc r M k n)) := rfl
theorem zs_if_ge {off : Int} {r : List Value} {x : Int32} : zsg cut fl lc ll dA rt ini nL Jk K post (.ok (.ifCond .ge off, 3)) pc loc (.int x :: r) M k n = (zo pc off ∧ (0 ≤ x → K (zt pc off) loc r M k n) ∧ (¬ 0 ≤ x → K (pc + 3) loc r M k n)) := rfl
theorem zs_if_gt {off : Int} {r : List Value} {x : Int32} : zsg cut fl lc ll dA rt ini nL Jk K post (.ok (.ifCond .gt off, 3)) pc loc (.int x :: r) M k n = (zo pc off ∧ (0 < x → K (zt pc off) loc r M k n) ∧ (¬ 0 < x → K (pc + 3) loc r M k n)) := rfl
theorem zs_if_le {off : Int} {r : List Value} {x : Int32} : zsg cut fl lc ll dA rt ini nL Jk K post (.ok (.ifCond .le off, 3)) pc loc (.int x :: r) M k n = (zo pc off ∧ (x ≤ 0 → K (zt pc off) loc r M k n) ∧ (¬ x ≤ 0 → K (pc + 3) loc r M k n)) := rfl
theorem zs_icmp_eq {off : Int} {r : List Value} {x : Int32} {y : Int32} : zsg cut fl lc ll dA rt ini nL Jk K post (.ok (.if_icmp .eq off, 3)) pc loc (.int y :: .int x :: r) M k n = (zo pc off ∧ (x = y → K (zt pc off) loc r M k n) ∧ (¬ x = y → K (pc + 3) loc r M k n)) := rfl
theorem zs_icmp_ne {off : Int} {r : List Value} {x : Int32} {y : Int32} : zsg cut fl lc ll dA rt ini nL Jk K post (.ok (.if_icmp .ne off, 3)) pc loc (.int y :: .int x :: r) M k n = (zo pc off ∧ (¬ x = y → K (zt pc off) loc r M k n) ∧ (x = y → K (pc + 3) loc r M k n)) := rfl
theorem zs_icmp_lt {off : Int} {r : List Value} {x : Int32} {y : Int32} : zsg cut fl lc ll dA rt ini nL Jk K post (.ok (.if_icmp .lt off, 3)) pc loc (.int y :: .int x :: r) M k n = (zo pc off ∧ (x < y → K (zt pc off) loc r M k n) ∧ (¬ x < y → K (pc + 3) loc r M k n)) := rfl
theorem zs_icmp_ge {off : Int} {r : List Value} {x : Int32} {y : Int32} : zsg cut fl lc ll dA rt ini nL Jk K post (.ok (.if_icmp .ge off, 3)) pc loc (.int y :: .int x :: r) M k n = (zo pc off ∧ (y ≤ x → K (zt pc off) loc r M k n) ∧ (¬ y ≤ x → K (pc + 3) loc r M k n)) := rfl
theorem zs_icmp_gt {off : Int} {r : List Value} {x : Int32} {y : Int32} : zsg cut fl lc ll dA rt ini nL Jk K post (.ok (.if_icmp .gt off, 3)) pc loc (.int y :: .int x :: r) M k n = (zo pc off ∧ (y < x → K (zt pc off) loc r M k n) ∧ (¬ y < x → K (pc + 3) loc r M k n)) := rfl
theorem zs_icmp_le {off : Int} {r : List Value} {x : Int32} {y : Int32} : zsg cut fl lc ll dA rt ini nL Jk K post (.ok (.if_icmp .le off, 3)) pc loc (.int y :: .int x :: r) M k n = (zo pc off ∧ (x ≤ y → K (zt pc off) loc r M k n) ∧ (¬ x ≤ y → K (pc + 3) loc r M k n)) := rfl
theorem zs_ifnull0 {off : Int} {r : List Value} {x0 : Nat} : zsg cut fl lc ll dA rt ini nL Jk K post (.ok (.ifnull off, 3)) pc loc (.ref x0 :: r) M k n = (K (pc + 3) loc r M k n) := rfl
theorem zs_ifnull1 {off : Int} {r : List Value} : zsg cut fl lc ll dA rt ini nL Jk K post (.ok (.ifnull off, 3)) pc loc (.null :: r) M k n = (zo pc off ∧ K (zt pc off) loc r M k n) := rfl
theorem zs_ifnonnull0 {off : Int} {r : List Value} {x0 : Nat} : zsg cut fl lc ll dA rt ini nL Jk K post (.ok (.ifnonnull off, 3)) pc loc (.ref x0 :: r) M k n = (zo pc off ∧ K (zt pc off) loc r M k n) := rfl
theorem zs_ifnonnull1 {off : Int} {r : List Value} : zsg cut fl lc ll dA rt ini nL Jk K post (.ok (.ifnonnull off, 3)) pc loc (.null :: r) M k n = (K (pc + 3) loc r M k n) := rfl
theorem zs_goto {off : Int} : zsg cut fl lc ll dA rt ini nL Jk K post (.ok (.goto off, 3)) pc loc st M k n = (zo pc off ∧ K (zt pc off) loc st M k n) := rfl
theorem zs_tsw {d lo hi : Int} {offs : Array Int} {x : Int32} {r : List Value} : zsg cut fl lc ll dA rt ini nL Jk K post (.ok (.tableswitch d lo hi offs, len)) pc loc (.int x :: r) M k n = (zswk lo hi offs ∧ (x.toInt < lo ∨ hi < x.toInt → zo pc d ∧ K (zt pc d) loc r M k n) ∧ zswl (fun t => K t loc r M k n) pc x.toInt lo offs.toList) := rfl
theorem zs_iinc {v : Int} {x : Nat} : zsg cut fl lc ll dA rt ini nL Jk K post (.ok (.iinc x v, 3)) pc loc st M k n = (zsI (zlg loc x) = true ∧ x < nL ∧ K (pc + 3) ((x, .int (zin (zlg loc x) + Int32.ofInt v)) :: zlr loc x) st M k n) := rfl
theorem zs_get {a : Nat} {r : List Value} {x : Nat} : zsg cut fl lc ll dA rt ini nL Jk K post (.ok (.getfield x, 3)) pc loc (.ref a :: r) M k n = (zso (zrd (fl x) (M a)) = true ∧ K (pc + 3) loc (zvo (zrd (fl x) (M a)) :: r) M k n) := rfl
theorem zs_put {a : Nat} {r : List Value} {v : Value} {x : Nat} : zsg cut fl lc ll dA rt ini nL Jk K post (.ok (.putfield x, 3)) pc loc (v :: .ref a :: r) M k n = (zso (zrd (fl x) (M a)) = true ∧ zkf ini (fl x) v ∧ K (pc + 3) loc r (zu M a (zwr (fl x) (M a) v)) k n) := rfl
theorem zs_iaload {a : Nat} {i : Int32} {r : List Value} : zsg cut fl lc ll dA rt ini nL Jk K post (.ok (.iaload, 1)) pc loc (.int i :: .ref a :: r) M k n = (zai (M a) (dA 0) i ∧ K (pc + 1) loc (.int (zaf (M a) i.toNatClampNeg) :: r) M k n) := rfl
theorem zs_iastore {a : Nat} {i : Int32} {r : List Value} {x : Int32} : zsg cut fl lc ll dA rt ini nL Jk K post (.ok (.iastore, 1)) pc loc (.int x :: .int i :: .ref a :: r) M k n = (zai (M a) (dA 0) i ∧ K (pc + 1) loc r (zu M a (zaw (M a) i.toNatClampNeg x)) k n) := rfl
theorem zs_laload {a : Nat} {i : Int32} {r : List Value} : zsg cut fl lc ll dA rt ini nL Jk K post (.ok (.laload, 1)) pc loc (.int i :: .ref a :: r) M k n = (zaL (M a) (dA 3) i ∧ K (pc + 1) loc (.long (zLf (M a) i.toNatClampNeg) :: r) M k n) := rfl
theorem zs_lastore {a : Nat} {i : Int32} {r : List Value} {x : Int64} : zsg cut fl lc ll dA rt ini nL Jk K post (.ok (.lastore, 1)) pc loc (.long x :: .int i :: .ref a :: r) M k n = (zaL (M a) (dA 3) i ∧ K (pc + 1) loc r (zu M a (zLw (M a) i.toNatClampNeg x)) k n) := rfl
theorem zs_baload {a : Nat} {i : Int32} {r : List Value} : zsg cut fl lc ll dA rt ini nL Jk K post (.ok (.baload, 1)) pc loc (.int i :: .ref a :: r) M k n = (zai (M a) (dA 4) i ∧ K (pc + 1) loc (.int (zaf (M a) i.toNatClampNeg) :: r) M k n) := rfl
theorem zs_bastore {a : Nat} {i : Int32} {r : List Value} {x : Int32} : zsg cut fl lc ll dA rt ini nL Jk K post (.ok (.bastore, 1)) pc loc (.int x :: .int i :: .ref a :: r) M k n = (zai (M a) (dA 4) i ∧ (x = 0 ∨ x = 1) ∧ K (pc + 1) loc r (zu M a (zaw (M a) i.toNatClampNeg x)) k n) := rfl
theorem zs_alen {a : Nat} {r : List Value} : zsg cut fl lc ll dA rt ini nL Jk K post (.ok (.arraylength, 1)) pc loc (.ref a :: r) M k n = (zal dA (M a) ∧ K (pc + 1) loc (.int (Int32.ofNat (zan (M a))) :: r) M k n) := rfl
theorem zs_aaload {a : Nat} {i : Int32} {r : List Value} : zsg cut fl lc ll dA rt ini nL Jk K post (.ok (.aaload, 1)) pc loc (.int i :: .ref a :: r) M k n = (zaq dA (M a) i ∧ K (pc + 1) loc (va_rf (zag (M a) i.toNatClampNeg) :: r) M k n) := rfl
theorem zs_ireturn {v : Int32} : zsg cut fl lc ll dA rt ini nL Jk K post (.ok (.ireturn, 1)) pc loc ([.int v]) M k n = (zri rt v ∧ post (some (.int v)) M k n) := rfl
theorem zs_lreturn {v : Int64} : zsg cut fl lc ll dA rt ini nL Jk K post (.ok (.lreturn, 1)) pc loc ([.long v]) M k n = (rt = 4 ∧ post (some (.long v)) M k n) := rfl
theorem zs_areturn0 {v : Nat} : zsg cut fl lc ll dA rt ini nL Jk K post (.ok (.areturn, 1)) pc loc ([.ref v]) M k n = (rt = 3 ∧ post (some (.ref v)) M k n) := rfl
theorem zs_areturn1 : zsg cut fl lc ll dA rt ini nL Jk K post (.ok (.areturn, 1)) pc loc ([.null]) M k n = (rt = 3 ∧ post (some .null) M k n) := rfl
theorem zs_return : zsg cut fl lc ll dA rt ini nL Jk K post (.ok (.return_, 1)) pc loc ([]) M k n = (rt = 0 ∧ post none M k n) := rfl
theorem zx_iv {x : Nat} : zsg cut fl lc ll dA rt ini nL Jk K post (.ok (.invokevirtual x, 3)) pc loc st M k n = Jk pc loc st M k n := rfl
theorem zx_is {x : Nat} : zsg cut fl lc ll dA rt ini nL Jk K post (.ok (.invokespecial x, 3)) pc loc st M k n = Jk pc loc st M k n := rfl
theorem zx_it {x : Nat} : zsg cut fl lc ll dA rt ini nL Jk K post (.ok (.invokestatic x, 3)) pc loc st M k n = Jk pc loc st M k n := rfl
theorem zx_nw {x : Nat} : zsg cut fl lc ll dA rt ini nL Jk K post (.ok (.new x, 3)) pc loc st M k n = Jk pc loc st M k n := rfl
theorem zx_na {x : ArrayType} : zsg cut fl lc ll dA rt ini nL Jk K post (.ok (.newarray x, 2)) pc loc st M k n = Jk pc loc st M k n := rfl
theorem zx_an {x : Nat} : zsg cut fl lc ll dA rt ini nL Jk K post (.ok (.anewarray x, 3)) pc loc st M k n = Jk pc loc st M k n := rfl
theorem zx_cc {x : Nat} : zsg cut fl lc ll dA rt ini nL Jk K post (.ok (.checkcast x, 3)) pc loc st M k n = Jk pc loc st M k n := rfl
theorem zx_gs {x : Nat} : zsg cut fl lc ll dA rt ini nL Jk K post (.ok (.getstatic x, 3)) pc loc st M k n = Jk pc loc st M k n := rfl
theorem zx_as : zsg cut fl lc ll dA rt ini nL Jk K post (.ok (.aastore, 1)) pc loc st M k n = Jk pc loc st M k n := rfl
theorem zx_ae {x : Int} : zsg cut fl lc ll dA rt ini nL Jk K post (.ok (.if_acmp .eq x, 3)) pc loc st M k n = Jk pc loc st M k n := rfl
theorem zx_ac {x : Int} : zsg cut fl lc ll dA rt ini nL Jk K post (.ok (.if_acmp .ne x, 3)) pc loc st M k n = Jk pc loc st M k n := rfl
theorem zx_at : zsg cut fl lc ll dA rt ini nL Jk K post (.ok (.athrow, 1)) pc loc st M k n = Jk pc loc st M k n := rfl
theorem zr_seg : zseg cc cut fl lc ll dA rt ini nL Jk post (f + 1) pc loc st M k n = (bif cut pc then Jk pc loc st M k n else zsg cut fl lc ll dA rt ini nL Jk (zseg cc cut fl lc ll dA rt ini nL Jk post f) post (decode cc pc) pc loc st M k n) := rfl
theorem zr_t {α : Type} {a b : α} : (bif true then a else b) = a := rfl
theorem zr_f {α : Type} {a b : α} : (bif false then a else b) = b := rfl
theorem zr_tp {a b : Prop} : (bif true then a else b) = a := rfl
theorem zr_fp {a b : Prop} : (bif false then a else b) = b := rfl
theorem zr_lg {j i : Nat} {v : Value} : zlg ((j, v) :: loc) i = bif j == i then some v else zlg loc i := rfl
theorem zr_lr {j i : Nat} {v : Value} : zlr ((j, v) :: loc) i = bif j == i || (j + 1 == i && zw v) then zlr loc i else (j, v) :: zlr loc i := rfl
theorem zr_lr0 {i : Nat} : zlr [] i = [] := rfl
theorem zr_wi {x : Int32} : zw (.int x) = false := rfl
theorem zr_wr {x : Nat} : zw (.ref x) = false := rfl
theorem zr_wn : zw .null = false := rfl
theorem zr_wl {x : Int64} : zw (.long x) = true := rfl
theorem zr_vo {v : Value} : zvo (some v) = v := rfl
theorem zr_so {v : Value} : zso (some v) = true := rfl
theorem zr_sI {x : Int32} : zsI (some (.int x)) = true := rfl
theorem zr_sL {x : Int64} : zsL (some (.long x)) = true := rfl
theorem zr_sA {x : Nat} : zsA (some (.ref x)) = true := rfl
theorem zr_sN : zsA (some .null) = true := rfl
theorem zr_in {x : Int32} : zin (some (.int x)) = x := rfl
theorem zr_rd {ci fi kd c0 : Nat} {fs : List Value} : zrd (some (ci, fi, kd)) (some (.inr (c0, fs))) = bif c0 == ci then fs[fi]? else none := rfl
theorem zr_wr2 {ci fi kd c0 : Nat} {fs : List Value} {v : Value} : zwr (some (ci, fi, kd)) (some (.inr (c0, fs))) v = .inr (c0, fs.set fi v) := rfl
theorem zr_kf {ci fi kd : Nat} {v : Value} : zkf ini (some (ci, fi, kd)) v = zkv ini kd v := rfl
theorem zr_k0 {x : Int32} : zkv ini 0 (.int x) = True := rfl
theorem zr_k1 {x : Int64} : zkv ini 1 (.long x) = True := rfl
theorem zr_k2 {x : Int32} : zkv ini 2 (.int x) = (x = 0 ∨ x = 1) := rfl
theorem zr_k3 {x : Nat} : zkv ini 3 (.ref x) = True := rfl
theorem zr_k3n : zkv ini 3 .null = True := rfl
theorem zr_k10 {x : Int32} : zkv true 10 (.int x) = (true = true) := rfl
theorem zr_k11 {x : Int64} : zkv true 11 (.long x) = (true = true) := rfl
theorem zr_k12 {x : Int32} : zkv true 12 (.int x) = (true = true ∧ (x = 0 ∨ x = 1)) := rfl
theorem zr_k13 {x : Nat} : zkv true 13 (.ref x) = (true = true) := rfl
theorem zr_k13n : zkv true 13 .null = (true = true) := rfl
theorem zr_ai {c0 cA : ClassId} {nn : Nat} {g : Nat → Int32} {i : Int32} : zai (some (.inl (c0, nn, .inl g))) cA i = (c0 = cA ∧ vp_in i nn) := rfl
theorem zr_af {c0 : ClassId} {nn j : Nat} {g : Nat → Int32} : zaf (some (.inl (c0, nn, .inl g))) j = g j := rfl
theorem zr_aw {c0 : ClassId} {nn j : Nat} {g : Nat → Int32} {x : Int32} : zaw (some (.inl (c0, nn, .inl g))) j x = .inl (c0, nn, .inl (upd g j x)) := rfl
theorem zr_aL {c0 cA : ClassId} {nn : Nat} {g : Nat → Int64} {i : Int32} : zaL (some (.inl (c0, nn, .inr (.inl g)))) cA i = (c0 = cA ∧ vp_in i nn) := rfl
theorem zr_Lf {c0 : ClassId} {nn j : Nat} {g : Nat → Int64} : zLf (some (.inl (c0, nn, .inr (.inl g)))) j = g j := rfl
theorem zr_Lw {c0 : ClassId} {nn j : Nat} {g : Nat → Int64} {x : Int64} : zLw (some (.inl (c0, nn, .inr (.inl g)))) j x = .inl (c0, nn, .inr (.inl (vp_updL g j x))) := rfl
theorem zr_l2 {j i : Nat} {v : Value} : zl2 ((j, v) :: loc) i = bif j == i || (j == i + 1 || (j + 1 == i && zw v)) then zl2 loc i else (j, v) :: zl2 loc i := rfl
theorem zr_l20 {i : Nat} : zl2 [] i = [] := rfl
theorem zr_al {c0 : ClassId} {q : vp_A} : zal dA (some (.inl (c0, q))) = (∃ (t : Nat) (ty : FieldType), (kt dA)[t]? = some (c0, ty)) := rfl
theorem zr_an {c0 : ClassId} {nn : Nat} {q : (Nat → Int32) ⊕ (Nat → Int64) ⊕ (Nat → UInt32) ⊕ (Nat → UInt64) ⊕ (Nat → Option Nat)} : zan (some (.inl (c0, nn, q))) = nn := rfl
theorem zr_aq {c0 : ClassId} {nn : Nat} {g : Nat → Option Nat} {i : Int32} : zaq dA (some (.inl (c0, nn, .inr (.inr (.inr (.inr g)))))) i = ((∃ (t : Nat) (C : String), (kt dA)[t]? = some (c0, .object C)) ∧ vp_in i nn) := rfl
theorem zr_ag {c0 : ClassId} {nn j : Nat} {g : Nat → Option Nat} : zag (some (.inl (c0, nn, .inr (.inr (.inr (.inr g)))))) j = g j := rfl
theorem zr_rfs {a : Nat} : va_rf (some a) = .ref a := rfl
theorem zr_rfn : va_rf none = .null := rfl
theorem zr_r1 {x : Int32} : zri 1 x = True := rfl
theorem zr_r2 {x : Int32} : zri 2 x = (x = 0 ∨ x = 1) := rfl
theorem zr_w0 {K0 : Nat → Prop} {x v : Int} : zswl K0 pc x v [] = True := rfl
theorem zr_w1 {K0 : Nat → Prop} {x v o : Int} {os : List Int} : zswl K0 pc x v (o :: os) = ((x = v → zo pc o ∧ K0 (zt pc o)) ∧ zswl K0 pc x (v + 1) os) := rfl
theorem zr_tl {os : List Int} : (List.toArray os).toList = os := rfl
theorem zr_40 : zf4 0 = 0 := rfl
theorem zr_41 : zf4 1 = 1 := rfl
theorem zr_42 : zf4 2 = 2 := rfl
theorem zr_43 : zf4 3 = 3 := rfl
end ZR
