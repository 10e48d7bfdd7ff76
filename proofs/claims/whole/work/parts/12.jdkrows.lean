/-! ROWS for the library's own code: the empty array, class objects, arraycopy, references compared. -/
section ZJDK
variable {p : Program} {l : Launch} {e : Env} {R : Room} {s : State} {m : MethodId} {args : Array Value} {below : List Frame} {meth : Method} {c : Code} {Q : State → Prop} {own : String} {cc : ByteArray} {nL z : Nat} {D : va_G} {dA : Nat → ClassId} {ini : Bool} {pc k n x : Nat} {loc : List (Nat × Value)} {M : zVw} {rest : List Value}
theorem zJ_alen0 (C : zC p s m args meth c own cc nL z D dA ini) (hd : decode cc pc = .ok (.arraylength, 1)) (kk : zJ p l e R s m args below meth c Q nL z D (pc + 1) loc (.int 0 :: rest) M k n) : zJ p l e R s m args below meth c Q nL z D pc loc (.ref (dA 100) :: rest) M k n := by
  intro H locs ls hv hz hS hl
  exact va_tlen C.1 C.2.1 C.2.2.2.2.2.2.2.2.2.2.1 hS (by decide) hd (kk H locs ls hv hz hS hl)
theorem zJ_gs (C : zC p s m args meth c own cc nL z D dA ini) (hd : decode cc pc = .ok (.getstatic x, 3)) (hw : Cond.fieldLink own x "java/util/ArrayList" "DEFAULTCAPACITY_EMPTY_ELEMENTDATA" "[Ljava/lang/Object;" ∈ tb) (kk : zJ p l e R s m args below meth c Q nL z D (pc + 3) loc (.ref (dA 100) :: rest) M k n) : zJ p l e R s m args below meth c Q nL z D pc loc rest M k n := by
  intro H locs ls hv hz hS hl
  exact va_gets C.1 C.2.1 C.2.2.2.2.2.2.2.2.2.1 hS C.2.2.2.1 (C.2.2.2.2.1 _ hw) (fun _ h => h) hd (kk H locs ls hv hz hS hl)
theorem zJ_acE {a b : Nat} {off : Int} (C : zC p s m args meth c own cc nL z D dA ini) (hd : decode cc pc = .ok (.if_acmp .eq off, 3)) (ho : zo pc off) (kt : a = b → zJ p l e R s m args below meth c Q nL z D (zt pc off) loc rest M k n) (kf : ¬ a = b → zJ p l e R s m args below meth c Q nL z D (pc + 3) loc rest M k n) : zJ p l e R s m args below meth c Q nL z D pc loc (.ref b :: .ref a :: rest) M k n := by
  intro H locs ls hv hz hS hl
  exact lv_acmp_eq (rx := some a) (ry := some b) C.1 C.2.1 hd (zt_ok ho) (fun h => kt (Option.some.inj h) H locs ls hv hz hS hl) (fun h => kf (fun q => h (by rw [q])) H locs ls hv hz hS hl)
theorem zJ_acN {a b : Nat} {off : Int} (C : zC p s m args meth c own cc nL z D dA ini) (hd : decode cc pc = .ok (.if_acmp .ne off, 3)) (ho : zo pc off) (kt : ¬ a = b → zJ p l e R s m args below meth c Q nL z D (zt pc off) loc rest M k n) (kf : a = b → zJ p l e R s m args below meth c Q nL z D (pc + 3) loc rest M k n) : zJ p l e R s m args below meth c Q nL z D pc loc (.ref b :: .ref a :: rest) M k n := by
  intro H locs ls hv hz hS hl
  exact lv_acmp_ne (rx := some a) (ry := some b) C.1 C.2.1 hd (zt_ok ho) (fun h => kt (fun q => h (by rw [q])) H locs ls hv hz hS hl) (fun h => kf (Option.some.inj h) H locs ls hv hz hS hl)
theorem zJ_ldM (C : zC p s m args meth c own cc nL z D dA ini) (hd : decode cc pc = .ok (.ldc x, 2)) (hw : Cond.classLink own x "[Ljava/lang/Object;" ∈ tb) (kk : zJ p l e R s m args below meth c Q nL z D (pc + 2) loc (.ref (dA 101) :: rest) M k n) : zJ p l e R s m args below meth c Q nL z D pc loc rest M k n := by
  intro H locs ls hv hz hS hl
  exact va_ldcM C.1 C.2.1 C.2.2.2.1 (C.2.2.2.2.1 _ hw) C.2.2.2.2.2.2.2.2.2.2.2.1 hd (kk H locs ls hv hz hS hl)
theorem zJ_gC {a nn : Nat} {g : Nat → Option Nat} (C : zC p s m args meth c own cc nL z D dA ini) (hd : decode cc pc = .ok (.invokevirtual x, 3)) (hw : Cond.methodLink own x ⟨"java/lang/Object", "getClass", "()Ljava/lang/Class;"⟩ ∈ tb) (ha : M a = some (.inl (dA 2, nn, .inr (.inr (.inr (.inr g)))))) (hf : 1 ≤ R.frames) (hlo : (rest.map fun v => v.category).sum + 14 ≤ R.locals)
    (kk : zJ p l e R s m args below meth c Q nL z D (pc + 3) loc (.ref (dA 101) :: rest) M k n) : zJ p l e R s m args below meth c Q nL z D pc loc (.ref a :: rest) M k n := by
  intro H locs ls hv hz hS hl
  have h1 : H[a]? = some (vp_cell (dA 2) (nn, .inr (.inr (.inr (.inr g))))) := hv a _ ha
  have hRA := (C.2.2.2.2.2.2.1.2 2 (dA 2, .object "java/lang/Object") rfl).2
  exact va_getC (C := "[Ljava/lang/Object;") C.1 C.2.1 (by rw [C.2.2.1, hl.1]) C.2.2.2.1 (C.2.2.2.2.1 _ hw) (va_Nw.use rfl (C.2.2.2.2.2.2.2.2.2.2.2.2.1 _ (by decide +kernel))) (C.2.2.2.2.1 _ (by decide +kernel)) (C.2.2.2.2.1 _ (by decide +kernel)) (C.2.2.2.2.1 _ (by decide +kernel)) C.2.2.2.2.2.2.2.2.2.2.2.1 ⟨_, h1, rfl, va_nmO hRA (by decide +kernel)⟩ hf hlo hd (kk H locs ls hv hz hS hl)
/-- all that an array of Objects holds are objects of the list's classes -/
def zEl (M : zVw) (n : Nat) (g : Nat → Option Nat) : Prop := ∀ i, i < n → ∀ y, g i = some y → ∃ (ci : Nat) (fs : List Value) (r : vw_C), M y = some (.inr (ci, fs)) ∧ kc[ci]? = some r ∧ Cond.castable r.1 "java/lang/Object" ∈ tx
theorem zJ_cp {a0 a n0 n1 N : Nat} {f g : Nat → Option Nat} {i : Int32} (C : zC p s m args meth c own cc nL z D dA ini) (hd : decode cc pc = .ok (.invokestatic x, 3)) (hw : Cond.methodLink own x arraycopyName ∈ tb) (ha0 : M a0 = some (.inl (dA 2, n0, .inr (.inr (.inr (.inr f)))))) (ha : M a = some (.inl (dA 2, n1, .inr (.inr (.inr (.inr g)))))) (hi : i = nI N) (hN : N < 1000000) (h0 : N ≤ n0) (h1 : N ≤ n1) (hel : zEl M N f) (hf : 1 ≤ R.frames) (hlo : (rest.map fun v => v.category).sum + (nativeFrameWords "java/lang/System" "arraycopy" 5 + 11) ≤ R.locals)
    (kk : zJ p l e R s m args below meth c Q nL z D (pc + 3) loc rest (zu M a (.inl (dA 2, n1, .inr (.inr (.inr (.inr (va_cpy f g 0 0 N))))))) k n) : zJ p l e R s m args below meth c Q nL z D pc loc (.int i :: .int 0 :: .ref a :: .int 0 :: .ref a0 :: rest) M k n := by
  intro H locs ls hv hz hS hl
  subst hi
  obtain ⟨ws, hP, hD, hin, hset, -⟩ := zv_ws hv hz
  obtain ⟨j0, hj0⟩ := hin a0 _ ha0
  obtain ⟨j, hj⟩ := hin a _ ha
  have e0 : (0 : Int32).toNatClampNeg = 0 := by decide
  have eN : (nI N).toNatClampNeg = N := nI_clamp (by omega)
  refine va_copyM C.1 C.2.1 (by rw [C.2.2.1, hl.1]) C.2.2.2.1 (C.2.2.2.2.1 _ hw) (C.2.2.2.2.1 _ (by decide +kernel)) (C.2.2.2.2.1 _ (by decide +kernel)) (C.2.2.2.2.1 _ (by decide +kernel)) C.2.2.2.2.2.2.1 hP hD hS j0 j 2 2 hj0 hj rfl rfl (by decide) (by decide) (nI_pos (by omega)) (by rw [e0, eN]; omega) (by rw [e0, eN]; omega) ?_ hf hlo hd (fun H1 locs1 hP1 hD1 hS1 => ?_)
  · intro q hq y hy
    rw [eN] at hq
    rw [e0, Nat.zero_add] at hy
    obtain ⟨ci, fs, r, y1, y2, y3⟩ := hel q hq y hy
    obtain ⟨j2, hj2⟩ := hin y _ y1
    exact va_rAny C.2.2.2.2.2.2.1 hP hj2 y2 (vb_asgC (C.2.2.2.2.2.2.2.2.2.2.2.2.1 _ y3))
  · rw [e0, eN] at hP1
    exact kk H1 locs1 ls (hset j a _ _ H1 hj hP1) (zhd_u hz (hz a _ ha)) hS1 hl
theorem zJ_asN {a nn : Nat} {i : Int32} {g : Nat → Option Nat} (C : zC p s m args meth c own cc nL z D dA ini) (hd : decode cc pc = .ok (.aastore, 1)) (ha : M a = some (.inl (dA 2, nn, .inr (.inr (.inr (.inr g)))))) (hi : vp_in i nn)
    (kk : zJ p l e R s m args below meth c Q nL z D (pc + 1) loc rest (zu M a (.inl (dA 2, nn, .inr (.inr (.inr (.inr (va_up g i.toNatClampNeg none))))))) k n) : zJ p l e R s m args below meth c Q nL z D pc loc (.null :: .int i :: .ref a :: rest) M k n := by
  intro H locs ls hv hz hS hl
  obtain ⟨ws, hP, hD, hin, hset, -⟩ := zv_ws hv hz
  obtain ⟨j, hj⟩ := hin a _ ha
  exact va_astqN C.1 C.2.1 C.2.2.2.2.2.2.1 hP hD hS j 2 hj rfl hi hd (fun H1 locs1 hP1 hD1 hS1 => kk H1 locs1 ls (hset j a _ _ H1 hj hP1) (zhd_u hz (hz a _ ha)) hS1 hl)
theorem zJ_max {a b : Int32} (C : zC p s m args meth c own cc nL z D dA ini) (hd : decode cc pc = .ok (.invokestatic x, 3)) (hw : Cond.methodLink own x Lib.Math.max.name ∈ tb) (hf : 1 ≤ R.frames) (hlo : (rest.map fun v => v.category).sum + 13 ≤ R.locals) (hc : k ≤ R.cells ∧ n ≤ R.slots) (kk : zJ p l e R s m args below meth c Q nL z D (pc + 3) loc (.int (if a < b then b else a) :: rest) M k n) : zJ p l e R s m args below meth c Q nL z D pc loc (.int b :: .int a :: rest) M k n := by
  intro H locs ls hv hz hS hl
  exact va_mmax C.1 C.2.1 (by rw [C.2.2.1, hl.1]) C.2.2.2.1 (C.2.2.2.2.1 _ hw) (C.2.2.2.2.1 _ (by decide +kernel)) (C.2.2.2.2.1 _ (by decide +kernel)) (C.2.2.2.2.1 _ (by decide +kernel)) hf hlo hc.1 hc.2 hd (kk H locs ls hv hz hS hl)
theorem zJ_min {a b : Int32} (C : zC p s m args meth c own cc nL z D dA ini) (hd : decode cc pc = .ok (.invokestatic x, 3)) (hw : Cond.methodLink own x Lib.Math.min.name ∈ tb) (hf : 1 ≤ R.frames) (hlo : (rest.map fun v => v.category).sum + 13 ≤ R.locals) (hc : k ≤ R.cells ∧ n ≤ R.slots) (kk : zJ p l e R s m args below meth c Q nL z D (pc + 3) loc (.int (if b < a then b else a) :: rest) M k n) : zJ p l e R s m args below meth c Q nL z D pc loc (.int b :: .int a :: rest) M k n := by
  intro H locs ls hv hz hS hl
  exact va_mmin C.1 C.2.1 (by rw [C.2.2.1, hl.1]) C.2.2.2.1 (C.2.2.2.2.1 _ hw) (C.2.2.2.2.1 _ (by decide +kernel)) (C.2.2.2.2.1 _ (by decide +kernel)) (C.2.2.2.2.1 _ (by decide +kernel)) hf hlo hc.1 hc.2 hd (kk H locs ls hv hz hS hl)
theorem zEl_u {q L : Nat} {g : Nat → Option Nat} {e0 : va_E} (h : zEl M L g) (hq : M q = none) : zEl (zu M q e0) L g := by
  intro i hi y hy
  obtain ⟨ci, fs, r, h1, h2⟩ := h i hi y hy
  have hne : y ≠ q := fun e => by rw [e, hq] at h1; cases h1
  exact ⟨ci, fs, r, by rw [zu_n hne]; exact h1, h2⟩
end ZJDK
