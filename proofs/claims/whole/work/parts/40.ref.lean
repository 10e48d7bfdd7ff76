/-! THE REFERENCE'S STATE: I its ints and booleans, L its longs, by the field's slot; B the addresses. -/
def zkd (k : Nat) : Nat := [8,0,0,1,0,2,2,0,0,1,1,0,0,1,0,2,9,0,0,0,2,0,1,0,0,0,0,0,1,9,0,0,0,9].getD k 9
def zln (k : Nat) : Nat := [0,61,61,61,61,61,61,549,549,549,549,549,549,549,549,549,0,100,100,100,8,8,8,8,240,240,240,240,240,0,4200,4200,4200,0].getD k 0
def zMo (B : Nat → Nat) (a b c : Int32) (t : Int64) : va_E := .inr (8, [.int a, .ref (B 1), .ref (B 2), .ref (B 3), .ref (B 4), .ref (B 5), .ref (B 6), .ref (B 7), .ref (B 8), .ref (B 9), .ref (B 10), .ref (B 11), .ref (B 12), .ref (B 13), .ref (B 14), .ref (B 15), .int b, .ref (B 17), .ref (B 18), .ref (B 19), .ref (B 20), .ref (B 21), .ref (B 22), .ref (B 23), .ref (B 24), .ref (B 25), .ref (B 26), .ref (B 27), .ref (B 28), .int c, .ref (B 30), .ref (B 31), .ref (B 32), .long t])
def zRf (M : zVw) (rl : Nat → Nat) (dA : Nat → ClassId) (B : Nat → Nat) (I : Nat → Nat → Int32) (L : Nat → Nat → Int64) : Prop :=
  M (B 0) = some (zMo B (I 0 0) (I 0 16) (I 0 29) (L 0 33)) ∧ (∀ k, zkd k < 9 → rl (B k) = 5000000 + k) ∧ (∀ k, zkd k = 0 → M (B k) = some (.inl (dA 0, zln k, .inl (I k)))) ∧ (∀ k, zkd k = 1 → M (B k) = some (.inl (dA 3, zln k, .inr (.inl (L k))))) ∧ (∀ k, zkd k = 2 → M (B k) = some (.inl (dA 4, zln k, .inl (I k))) ∧ ∀ j, I k j = 0 ∨ I k j = 1)
def zRg (M0 M : zVw) (rl : Nat → Nat) (dA : Nat → ClassId) (B : Nat → Nat) (I : Nat → Nat → Int32) (L : Nat → Nat → Int64) : Prop := zRf M rl dA B I L ∧ ∀ x, rl x < 5000000 → M x = M0 x
def zI {α : Type} (I : Nat → α) (k : Nat) (f : α) : Nat → α := fun k' => bif k' == k then f else I k'
theorem zI_r {α : Type} {I : Nat → α} {k k' : Nat} {f : α} : zI I k f k' = bif k' == k then f else I k' := rfl
theorem zI_e {α : Type} {I : Nat → α} {k : Nat} {f : α} : zI I k f k = f := by unfold zI; rw [show (k == k) = true from by simp]; rfl
theorem zI_n {α : Type} {I : Nat → α} {k k' : Nat} {f : α} (h : k' ≠ k) : zI I k f k' = I k' := by unfold zI; rw [show (k' == k) = false from by simp [h]]; rfl
theorem upd_s (f : Nat → Int32) (k : Nat) (x : Int32) : upd f k x k = x := if_pos rfl
theorem upd_n {f : Nat → Int32} {k j : Nat} {x : Int32} (h : j ≠ k) : upd f k x j = f j := if_neg h
theorem updL_s (f : Nat → Int64) (k : Nat) (x : Int64) : vp_updL f k x k = x := if_pos rfl
theorem updL_n {f : Nat → Int64} {k j : Nat} {x : Int64} (h : j ≠ k) : vp_updL f k x j = f j := if_neg h
theorem upd_b {f : Nat → Int32} {k : Nat} {x : Int32} (h : ∀ j, f j = 0 ∨ f j = 1) (hx : x = 0 ∨ x = 1) (j : Nat) : upd f k x j = 0 ∨ upd f k x j = 1 := by
  by_cases e : j = k
  · subst e; rw [upd_s]; exact hx
  · rw [upd_n e]; exact h j
section RF
variable {M0 M : zVw} {rl : Nat → Nat} {dA : Nat → ClassId} {B : Nat → Nat} {I : Nat → Nat → Int32} {L : Nat → Nat → Int64} {k : Nat}
theorem rf_ne (h : zRf M rl dA B I L) {i j : Nat} (hi : zkd i < 9) (hj : zkd j < 9) (hij : i ≠ j) : B i ≠ B j := fun q => by
  have a := h.2.1 i hi
  have b := h.2.1 j hj
  rw [q, b] at a
  omega
theorem rg_0 (h : zRf M rl dA B I L) : zRg M M rl dA B I L := ⟨h, fun _ _ => rfl⟩
theorem rg_i {f : Nat → Int32} (k : Nat) (h : zRg M0 M rl dA B I L) (hk : zkd k = 0) : zRg M0 (zu M (B k) (.inl (dA 0, zln k, .inl f))) rl dA B (zI I k f) L := by
  have k0 : k ≠ 0 := fun q => by rw [q] at hk; cases hk
  refine ⟨⟨?_, h.1.2.1, fun k' hk' => ?_, fun k' hk' => ?_, fun k' hk' => ?_⟩, fun x hx => ?_⟩
  · rw [zu_n (rf_ne h.1 (by decide) (by omega) (fun q => k0 q.symm)), zI_n (fun q => k0 q.symm)]; exact h.1.1
  · by_cases e : k' = k
    · subst e; rw [zu_s, zI_e]
    · rw [zu_n (rf_ne h.1 (by omega) (by omega) e), zI_n e]; exact h.1.2.2.1 k' hk'
  · have e : k' ≠ k := fun q => by rw [q] at hk'; omega
    rw [zu_n (rf_ne h.1 (by omega) (by omega) e)]; exact h.1.2.2.2.1 k' hk'
  · have e : k' ≠ k := fun q => by rw [q] at hk'; omega
    rw [zu_n (rf_ne h.1 (by omega) (by omega) e), zI_n e]; exact h.1.2.2.2.2 k' hk'
  · rw [zu_n (fun q => by rw [q, h.1.2.1 k (by omega)] at hx; omega)]; exact h.2 x hx
theorem rg_z {f : Nat → Int32} (k : Nat) (h : zRg M0 M rl dA B I L) (hk : zkd k = 2) (hf : ∀ j, f j = 0 ∨ f j = 1) : zRg M0 (zu M (B k) (.inl (dA 4, zln k, .inl f))) rl dA B (zI I k f) L := by
  have k0 : k ≠ 0 := fun q => by rw [q] at hk; cases hk
  refine ⟨⟨?_, h.1.2.1, fun k' hk' => ?_, fun k' hk' => ?_, fun k' hk' => ?_⟩, fun x hx => ?_⟩
  · rw [zu_n (rf_ne h.1 (by decide) (by omega) (fun q => k0 q.symm)), zI_n (fun q => k0 q.symm)]; exact h.1.1
  · have e : k' ≠ k := fun q => by rw [q] at hk'; omega
    rw [zu_n (rf_ne h.1 (by omega) (by omega) e), zI_n e]; exact h.1.2.2.1 k' hk'
  · have e : k' ≠ k := fun q => by rw [q] at hk'; omega
    rw [zu_n (rf_ne h.1 (by omega) (by omega) e)]; exact h.1.2.2.2.1 k' hk'
  · by_cases e : k' = k
    · subst e; rw [zu_s, zI_e]; exact ⟨rfl, hf⟩
    · rw [zu_n (rf_ne h.1 (by omega) (by omega) e), zI_n e]; exact h.1.2.2.2.2 k' hk'
  · rw [zu_n (fun q => by rw [q, h.1.2.1 k (by omega)] at hx; omega)]; exact h.2 x hx
theorem rg_l {f : Nat → Int64} (k : Nat) (h : zRg M0 M rl dA B I L) (hk : zkd k = 1) : zRg M0 (zu M (B k) (.inl (dA 3, zln k, .inr (.inl f)))) rl dA B I (zI L k f) := by
  have k0 : k ≠ 0 := fun q => by rw [q] at hk; cases hk
  refine ⟨⟨?_, h.1.2.1, fun k' hk' => ?_, fun k' hk' => ?_, fun k' hk' => ?_⟩, fun x hx => ?_⟩
  · rw [zu_n (rf_ne h.1 (by decide) (by omega) (fun q => k0 q.symm)), zI_n (fun q => k0 q.symm)]; exact h.1.1
  · have e : k' ≠ k := fun q => by rw [q] at hk'; omega
    rw [zu_n (rf_ne h.1 (by omega) (by omega) e)]; exact h.1.2.2.1 k' hk'
  · by_cases e : k' = k
    · subst e; rw [zu_s, zI_e]
    · rw [zu_n (rf_ne h.1 (by omega) (by omega) e), zI_n e]; exact h.1.2.2.2.1 k' hk'
  · have e : k' ≠ k := fun q => by rw [q] at hk'; omega
    rw [zu_n (rf_ne h.1 (by omega) (by omega) e)]; exact h.1.2.2.2.2 k' hk'
  · rw [zu_n (fun q => by rw [q, h.1.2.1 k (by omega)] at hx; omega)]; exact h.2 x hx
theorem rg_o {a b c : Int32} {t : Int64} {f : Nat → Int32} {g : Nat → Int64} (h : zRg M0 M rl dA B I L) (h0 : f 0 = a) (h1 : f 16 = b) (h2 : f 29 = c) (h3 : g 33 = t) : zRg M0 (zu M (B 0) (zMo B a b c t)) rl dA B (zI I 0 f) (zI L 0 g) := by
  have e : ∀ {k : Nat}, zkd k < 8 → k ≠ 0 := fun {k} hk q => by rw [q] at hk; exact absurd hk (by decide)
  refine ⟨⟨?_, h.1.2.1, fun k' hk' => ?_, fun k' hk' => ?_, fun k' hk' => ?_⟩, fun x hx => ?_⟩
  · rw [zu_s, zI_e, zI_e, h0, h1, h2, h3]
  · rw [zu_n (rf_ne h.1 (by omega) (by decide) (e (by omega))), zI_n (e (by omega))]; exact h.1.2.2.1 k' hk'
  · rw [zu_n (rf_ne h.1 (by omega) (by decide) (e (by omega))), zI_n (e (by omega))]; exact h.1.2.2.2.1 k' hk'
  · rw [zu_n (rf_ne h.1 (by omega) (by decide) (e (by omega))), zI_n (e (by omega))]; exact h.1.2.2.2.2 k' hk'
  · rw [zu_n (fun q => by rw [q, h.1.2.1 0 (by decide)] at hx; omega)]; exact h.2 x hx
end RF
theorem rf_0 {M : zVw} {rl : Nat → Nat} {dA : Nat → ClassId} {B : Nat → Nat} {I : Nat → Nat → Int32} {L : Nat → Nat → Int64} (h : zRf M rl dA B I L) : M (B 0) = some (.inr (8, [.int (I 0 0), .ref (B 1), .ref (B 2), .ref (B 3), .ref (B 4), .ref (B 5), .ref (B 6), .ref (B 7), .ref (B 8), .ref (B 9), .ref (B 10), .ref (B 11), .ref (B 12), .ref (B 13), .ref (B 14), .ref (B 15), .int (I 0 16), .ref (B 17), .ref (B 18), .ref (B 19), .ref (B 20), .ref (B 21), .ref (B 22), .ref (B 23), .ref (B 24), .ref (B 25), .ref (B 26), .ref (B 27), .ref (B 28), .int (I 0 29), .ref (B 30), .ref (B 31), .ref (B 32), .long (L 0 33)])) := h.1
theorem rf_1 {M : zVw} {rl : Nat → Nat} {dA : Nat → ClassId} {B : Nat → Nat} {I : Nat → Nat → Int32} {L : Nat → Nat → Int64} (h : zRf M rl dA B I L) : M (B 1) = some (.inl (dA 0, 61, .inl (I 1))) := h.2.2.1 1 rfl
theorem rf_2 {M : zVw} {rl : Nat → Nat} {dA : Nat → ClassId} {B : Nat → Nat} {I : Nat → Nat → Int32} {L : Nat → Nat → Int64} (h : zRf M rl dA B I L) : M (B 2) = some (.inl (dA 0, 61, .inl (I 2))) := h.2.2.1 2 rfl
theorem rf_3 {M : zVw} {rl : Nat → Nat} {dA : Nat → ClassId} {B : Nat → Nat} {I : Nat → Nat → Int32} {L : Nat → Nat → Int64} (h : zRf M rl dA B I L) : M (B 3) = some (.inl (dA 3, 61, .inr (.inl (L 3)))) := h.2.2.2.1 3 rfl
theorem rf_4 {M : zVw} {rl : Nat → Nat} {dA : Nat → ClassId} {B : Nat → Nat} {I : Nat → Nat → Int32} {L : Nat → Nat → Int64} (h : zRf M rl dA B I L) : M (B 4) = some (.inl (dA 0, 61, .inl (I 4))) := h.2.2.1 4 rfl
theorem rf_5 {M : zVw} {rl : Nat → Nat} {dA : Nat → ClassId} {B : Nat → Nat} {I : Nat → Nat → Int32} {L : Nat → Nat → Int64} (h : zRf M rl dA B I L) : M (B 5) = some (.inl (dA 4, 61, .inl (I 5))) := (h.2.2.2.2 5 rfl).1
theorem rfb_5 {M : zVw} {rl : Nat → Nat} {dA : Nat → ClassId} {B : Nat → Nat} {I : Nat → Nat → Int32} {L : Nat → Nat → Int64} (h : zRf M rl dA B I L) : ∀ j, I 5 j = 0 ∨ I 5 j = 1 := (h.2.2.2.2 5 rfl).2
theorem rf_6 {M : zVw} {rl : Nat → Nat} {dA : Nat → ClassId} {B : Nat → Nat} {I : Nat → Nat → Int32} {L : Nat → Nat → Int64} (h : zRf M rl dA B I L) : M (B 6) = some (.inl (dA 4, 61, .inl (I 6))) := (h.2.2.2.2 6 rfl).1
theorem rfb_6 {M : zVw} {rl : Nat → Nat} {dA : Nat → ClassId} {B : Nat → Nat} {I : Nat → Nat → Int32} {L : Nat → Nat → Int64} (h : zRf M rl dA B I L) : ∀ j, I 6 j = 0 ∨ I 6 j = 1 := (h.2.2.2.2 6 rfl).2
theorem rf_7 {M : zVw} {rl : Nat → Nat} {dA : Nat → ClassId} {B : Nat → Nat} {I : Nat → Nat → Int32} {L : Nat → Nat → Int64} (h : zRf M rl dA B I L) : M (B 7) = some (.inl (dA 0, 549, .inl (I 7))) := h.2.2.1 7 rfl
theorem rf_8 {M : zVw} {rl : Nat → Nat} {dA : Nat → ClassId} {B : Nat → Nat} {I : Nat → Nat → Int32} {L : Nat → Nat → Int64} (h : zRf M rl dA B I L) : M (B 8) = some (.inl (dA 0, 549, .inl (I 8))) := h.2.2.1 8 rfl
theorem rf_9 {M : zVw} {rl : Nat → Nat} {dA : Nat → ClassId} {B : Nat → Nat} {I : Nat → Nat → Int32} {L : Nat → Nat → Int64} (h : zRf M rl dA B I L) : M (B 9) = some (.inl (dA 3, 549, .inr (.inl (L 9)))) := h.2.2.2.1 9 rfl
theorem rf_10 {M : zVw} {rl : Nat → Nat} {dA : Nat → ClassId} {B : Nat → Nat} {I : Nat → Nat → Int32} {L : Nat → Nat → Int64} (h : zRf M rl dA B I L) : M (B 10) = some (.inl (dA 3, 549, .inr (.inl (L 10)))) := h.2.2.2.1 10 rfl
theorem rf_11 {M : zVw} {rl : Nat → Nat} {dA : Nat → ClassId} {B : Nat → Nat} {I : Nat → Nat → Int32} {L : Nat → Nat → Int64} (h : zRf M rl dA B I L) : M (B 11) = some (.inl (dA 0, 549, .inl (I 11))) := h.2.2.1 11 rfl
theorem rf_12 {M : zVw} {rl : Nat → Nat} {dA : Nat → ClassId} {B : Nat → Nat} {I : Nat → Nat → Int32} {L : Nat → Nat → Int64} (h : zRf M rl dA B I L) : M (B 12) = some (.inl (dA 0, 549, .inl (I 12))) := h.2.2.1 12 rfl
theorem rf_13 {M : zVw} {rl : Nat → Nat} {dA : Nat → ClassId} {B : Nat → Nat} {I : Nat → Nat → Int32} {L : Nat → Nat → Int64} (h : zRf M rl dA B I L) : M (B 13) = some (.inl (dA 3, 549, .inr (.inl (L 13)))) := h.2.2.2.1 13 rfl
theorem rf_14 {M : zVw} {rl : Nat → Nat} {dA : Nat → ClassId} {B : Nat → Nat} {I : Nat → Nat → Int32} {L : Nat → Nat → Int64} (h : zRf M rl dA B I L) : M (B 14) = some (.inl (dA 0, 549, .inl (I 14))) := h.2.2.1 14 rfl
theorem rf_15 {M : zVw} {rl : Nat → Nat} {dA : Nat → ClassId} {B : Nat → Nat} {I : Nat → Nat → Int32} {L : Nat → Nat → Int64} (h : zRf M rl dA B I L) : M (B 15) = some (.inl (dA 4, 549, .inl (I 15))) := (h.2.2.2.2 15 rfl).1
theorem rfb_15 {M : zVw} {rl : Nat → Nat} {dA : Nat → ClassId} {B : Nat → Nat} {I : Nat → Nat → Int32} {L : Nat → Nat → Int64} (h : zRf M rl dA B I L) : ∀ j, I 15 j = 0 ∨ I 15 j = 1 := (h.2.2.2.2 15 rfl).2
theorem rf_17 {M : zVw} {rl : Nat → Nat} {dA : Nat → ClassId} {B : Nat → Nat} {I : Nat → Nat → Int32} {L : Nat → Nat → Int64} (h : zRf M rl dA B I L) : M (B 17) = some (.inl (dA 0, 100, .inl (I 17))) := h.2.2.1 17 rfl
theorem rf_18 {M : zVw} {rl : Nat → Nat} {dA : Nat → ClassId} {B : Nat → Nat} {I : Nat → Nat → Int32} {L : Nat → Nat → Int64} (h : zRf M rl dA B I L) : M (B 18) = some (.inl (dA 0, 100, .inl (I 18))) := h.2.2.1 18 rfl
theorem rf_19 {M : zVw} {rl : Nat → Nat} {dA : Nat → ClassId} {B : Nat → Nat} {I : Nat → Nat → Int32} {L : Nat → Nat → Int64} (h : zRf M rl dA B I L) : M (B 19) = some (.inl (dA 0, 100, .inl (I 19))) := h.2.2.1 19 rfl
theorem rf_20 {M : zVw} {rl : Nat → Nat} {dA : Nat → ClassId} {B : Nat → Nat} {I : Nat → Nat → Int32} {L : Nat → Nat → Int64} (h : zRf M rl dA B I L) : M (B 20) = some (.inl (dA 4, 8, .inl (I 20))) := (h.2.2.2.2 20 rfl).1
theorem rfb_20 {M : zVw} {rl : Nat → Nat} {dA : Nat → ClassId} {B : Nat → Nat} {I : Nat → Nat → Int32} {L : Nat → Nat → Int64} (h : zRf M rl dA B I L) : ∀ j, I 20 j = 0 ∨ I 20 j = 1 := (h.2.2.2.2 20 rfl).2
theorem rf_21 {M : zVw} {rl : Nat → Nat} {dA : Nat → ClassId} {B : Nat → Nat} {I : Nat → Nat → Int32} {L : Nat → Nat → Int64} (h : zRf M rl dA B I L) : M (B 21) = some (.inl (dA 0, 8, .inl (I 21))) := h.2.2.1 21 rfl
theorem rf_22 {M : zVw} {rl : Nat → Nat} {dA : Nat → ClassId} {B : Nat → Nat} {I : Nat → Nat → Int32} {L : Nat → Nat → Int64} (h : zRf M rl dA B I L) : M (B 22) = some (.inl (dA 3, 8, .inr (.inl (L 22)))) := h.2.2.2.1 22 rfl
theorem rf_23 {M : zVw} {rl : Nat → Nat} {dA : Nat → ClassId} {B : Nat → Nat} {I : Nat → Nat → Int32} {L : Nat → Nat → Int64} (h : zRf M rl dA B I L) : M (B 23) = some (.inl (dA 0, 8, .inl (I 23))) := h.2.2.1 23 rfl
theorem rf_24 {M : zVw} {rl : Nat → Nat} {dA : Nat → ClassId} {B : Nat → Nat} {I : Nat → Nat → Int32} {L : Nat → Nat → Int64} (h : zRf M rl dA B I L) : M (B 24) = some (.inl (dA 0, 240, .inl (I 24))) := h.2.2.1 24 rfl
theorem rf_25 {M : zVw} {rl : Nat → Nat} {dA : Nat → ClassId} {B : Nat → Nat} {I : Nat → Nat → Int32} {L : Nat → Nat → Int64} (h : zRf M rl dA B I L) : M (B 25) = some (.inl (dA 0, 240, .inl (I 25))) := h.2.2.1 25 rfl
theorem rf_26 {M : zVw} {rl : Nat → Nat} {dA : Nat → ClassId} {B : Nat → Nat} {I : Nat → Nat → Int32} {L : Nat → Nat → Int64} (h : zRf M rl dA B I L) : M (B 26) = some (.inl (dA 0, 240, .inl (I 26))) := h.2.2.1 26 rfl
theorem rf_27 {M : zVw} {rl : Nat → Nat} {dA : Nat → ClassId} {B : Nat → Nat} {I : Nat → Nat → Int32} {L : Nat → Nat → Int64} (h : zRf M rl dA B I L) : M (B 27) = some (.inl (dA 0, 240, .inl (I 27))) := h.2.2.1 27 rfl
theorem rf_28 {M : zVw} {rl : Nat → Nat} {dA : Nat → ClassId} {B : Nat → Nat} {I : Nat → Nat → Int32} {L : Nat → Nat → Int64} (h : zRf M rl dA B I L) : M (B 28) = some (.inl (dA 3, 240, .inr (.inl (L 28)))) := h.2.2.2.1 28 rfl
theorem rf_30 {M : zVw} {rl : Nat → Nat} {dA : Nat → ClassId} {B : Nat → Nat} {I : Nat → Nat → Int32} {L : Nat → Nat → Int64} (h : zRf M rl dA B I L) : M (B 30) = some (.inl (dA 0, 4200, .inl (I 30))) := h.2.2.1 30 rfl
theorem rf_31 {M : zVw} {rl : Nat → Nat} {dA : Nat → ClassId} {B : Nat → Nat} {I : Nat → Nat → Int32} {L : Nat → Nat → Int64} (h : zRf M rl dA B I L) : M (B 31) = some (.inl (dA 0, 4200, .inl (I 31))) := h.2.2.1 31 rfl
theorem rf_32 {M : zVw} {rl : Nat → Nat} {dA : Nat → ClassId} {B : Nat → Nat} {I : Nat → Nat → Int32} {L : Nat → Nat → Int64} (h : zRf M rl dA B I L) : M (B 32) = some (.inl (dA 0, 4200, .inl (I 32))) := h.2.2.1 32 rfl
set_option maxHeartbeats 4000000 in
set_option maxRecDepth 100000 in
theorem c_M_isIn (l : Launch) (D : va_G) (dA : Nat → ClassId) (z : Nat) (M : zVw) (a b c0 : Int64) : zMet l y_M_isIn b_M_isIn 6 (some .boolean) 0 0 0 0 D dA z [.long a, .long b, .long c0] M (fun v M' => M' = M ∧ v = some (.int (zb (b ≤ a ∧ a ≤ c0)))) := by
  refine z_of 2 false (by decide) (fun h => by first | rfl | cases h) (Nat.le_of_ble_eq_true rfl) trivial ?_
  intro p e s m args below meth c C hR
  refine zgo (cut := fun _ => false) 60 C lk_M hR ?_
  simp only [zs_iconst, zs_lload_n, zs_lload, zs_lcmp, zs_if_lt, zs_if_gt, zs_goto, zs_ireturn, zx_iv, zx_is, zx_it, zx_nw, zx_na, zx_an, zx_cc, zx_gs, zx_as, zx_ae, zx_ac, zx_at, zr_seg, zr_t, zr_f, zr_tp, zr_fp, zr_lg, zr_lr, zr_lr0, zr_wi, zr_wr, zr_wn, zr_wl, zr_vo, zr_so, zr_sI, zr_sL, zr_sA, zr_sN, zr_in, zr_rd, zr_wr2, zr_kf, zr_k0, zr_k1, zr_k2, zr_k3, zr_k3n, zr_k10, zr_k11, zr_k12, zr_k13, zr_k13n, zr_ai, zr_af, zr_aw, zr_aL, zr_Lf, zr_Lw, zr_l2, zr_l20, zr_al, zr_an, zr_aq, zr_ag, zr_rfs, zr_rfn, zr_r1, zr_r2, zr_w0, zr_w1, zr_tl, zr_40, zr_41, zr_42, zr_43, d_M_isIn_0, d_M_isIn_1, d_M_isIn_2, d_M_isIn_3, zt_3_14, zo_3_14, d_M_isIn_6, d_M_isIn_7, d_M_isIn_9, d_M_isIn_10, zt_10_7, zo_10_7, d_M_isIn_13, ci_1, d_M_isIn_14, zt_14_4, zo_14_4, d_M_isIn_17, ci_0, d_M_isIn_18, za_0, za_i, za_r, za_n, za_l, zu_s, zu_u, Nat.reduceAdd, Nat.reduceLT, Nat.reduceBEq, Nat.zero_add, Bool.false_or, Bool.or_false, Bool.true_or, Bool.or_true, Bool.false_and, Bool.and_false, Bool.true_and, Bool.and_true, true_and, and_true, true_or, or_true, eq_self, Nat.le_refl, List.getElem?_cons_succ, List.getElem?_cons_zero, List.set_cons_succ, List.set_cons_zero, zk_0, zk_1, zk_2, zk_3, zk_4, zq_1, zq_2, Option.isSome_some, Option.getD_some, Option.toList_some, Option.toList_none, List.cons_append, List.nil_append, zc_lt, zc_gt, true_implies, false_implies, not_true_eq_false, not_false_eq_true, zn_10, Int32.reduceLT, Int32.reduceLE, implies_true, and_self]
  clear C hR
  (repeat' first | apply And.intro | intro _) <;> first | (rw [zb_t (by (simp only [Int32.lt_iff_toInt_lt, Int32.le_iff_toInt_le, ← Int32.toInt_inj, Int32.reduceToInt, Int64.lt_iff_toInt_lt, Int64.le_iff_toInt_le, ← Int64.toInt_inj, Int64.reduceToInt, Int32.toInt_toInt64] at *; omega))]; done) | (rw [zb_f (by (simp only [Int32.lt_iff_toInt_lt, Int32.le_iff_toInt_le, ← Int32.toInt_inj, Int32.reduceToInt, Int64.lt_iff_toInt_lt, Int64.le_iff_toInt_le, ← Int64.toInt_inj, Int64.reduceToInt, Int32.toInt_toInt64] at *; omega))]; done)
set_option maxHeartbeats 4000000 in
set_option maxRecDepth 100000 in
theorem c_M_isItem (l : Launch) (D : va_G) (dA : Nat → ClassId) (z : Nat) (M : zVw) (rl : Nat → Nat) (B : Nat → Nat) (I : Nat → Nat → Int32) (L : Nat → Nat → Int64) (x : Int32) (hr : zRf M rl dA B I L) : zMet l y_M_isItem b_M_isItem 2 (some .boolean) 0 0 0 0 D dA z [.ref (B 0), .int x] M (fun v M' => M' = M ∧ v = some (.int (zb (1 ≤ x ∧ x ≤ I 0 0)))) := by
  have h0 := rf_0 hr
  refine z_of 2 false (by decide) (fun h => by first | rfl | cases h) (Nat.le_of_ble_eq_true rfl) trivial ?_
  intro p e s m args below meth c C hR
  refine zgo (cut := fun _ => false) 60 C lk_M hR ?_
  simp only [zs_iconst, zs_iload_n, zs_aload_n, zs_icmp_lt, zs_icmp_gt, zs_goto, zs_get, zs_ireturn, zx_iv, zx_is, zx_it, zx_nw, zx_na, zx_an, zx_cc, zx_gs, zx_as, zx_ae, zx_ac, zx_at, zr_seg, zr_t, zr_f, zr_tp, zr_fp, zr_lg, zr_lr, zr_lr0, zr_wi, zr_wr, zr_wn, zr_wl, zr_vo, zr_so, zr_sI, zr_sL, zr_sA, zr_sN, zr_in, zr_rd, zr_wr2, zr_kf, zr_k0, zr_k1, zr_k2, zr_k3, zr_k3n, zr_k10, zr_k11, zr_k12, zr_k13, zr_k13n, zr_ai, zr_af, zr_aw, zr_aL, zr_Lf, zr_Lw, zr_l2, zr_l20, zr_al, zr_an, zr_aq, zr_ag, zr_rfs, zr_rfn, zr_r1, zr_r2, zr_w0, zr_w1, zr_tl, zr_40, zr_41, zr_42, zr_43, d_M_isItem_0, d_M_isItem_1, ci_1, d_M_isItem_2, zt_2_15, zo_2_15, d_M_isItem_5, d_M_isItem_6, d_M_isItem_7, fl_M_102, d_M_isItem_10, zt_10_7, zo_10_7, d_M_isItem_13, d_M_isItem_14, zt_14_4, zo_14_4, d_M_isItem_17, ci_0, d_M_isItem_18, za_0, za_i, za_r, za_n, za_l, zu_s, zu_u, Nat.reduceAdd, Nat.reduceLT, Nat.reduceBEq, Nat.zero_add, Bool.false_or, Bool.or_false, Bool.true_or, Bool.or_true, Bool.false_and, Bool.and_false, Bool.true_and, Bool.and_true, true_and, and_true, true_or, or_true, eq_self, Nat.le_refl, List.getElem?_cons_succ, List.getElem?_cons_zero, List.set_cons_succ, List.set_cons_zero, zk_0, zk_1, zk_2, zk_3, zk_4, zq_1, zq_2, Option.isSome_some, Option.getD_some, Option.toList_some, Option.toList_none, List.cons_append, List.nil_append, h0, true_implies, false_implies, not_true_eq_false, not_false_eq_true, zn_10, Int32.reduceLT, Int32.reduceLE, implies_true, and_self]
  clear C hR
  (repeat' first | apply And.intro | intro _) <;> first | (rw [zb_t (by (simp only [Int32.lt_iff_toInt_lt, Int32.le_iff_toInt_le, ← Int32.toInt_inj, Int32.reduceToInt] at *; omega))]; done) | (rw [zb_f (by (simp only [Int32.lt_iff_toInt_lt, Int32.le_iff_toInt_le, ← Int32.toInt_inj, Int32.reduceToInt] at *; omega))]; done)
