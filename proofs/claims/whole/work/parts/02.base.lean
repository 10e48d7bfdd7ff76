/-! A VIEW of the heap: what is known of it, as a function from addresses to contents. Contracts speak of views; no frame is cut. -/
abbrev zVw : Type := Nat → Option va_E
def zu (M : zVw) (a : Nat) (e : va_E) : zVw := fun q => if q = a then some e else M q
theorem zu_s (M : zVw) (a : Nat) (e : va_E) : zu M a e a = some e := if_pos rfl
theorem zu_n {M : zVw} {a b : Nat} {e : va_E} (h : b ≠ a) : zu M a e b = M b := if_neg h
theorem zu_u (M : zVw) (a : Nat) (e1 e2 : va_E) : zu (zu M a e1) a e2 = zu M a e2 := by
  funext q
  unfold zu
  by_cases h : q = a
  · rw [if_pos h, if_pos h]
  · rw [if_neg h, if_neg h, if_neg h]
def zhv (D : va_G) (cl : List vw_C) (M : zVw) (H : Heap) : Prop := ∀ (a : Nat) (e : va_E), M a = some e → va_at D cl (a, e) H
def zhd (z : Nat) (M : zVw) : Prop := ∀ (q : Nat) (e : va_E), M q = some e → z ≤ q
def zws (M : zVw) : Nat → va_W
  | 0 => []
  | n + 1 => zws M n ++ (match M n with | some e => [(n, e)] | none => [])
theorem zws_lt (M : zVw) : ∀ (n k : Nat) (q : Nat × va_E), (zws M n)[k]? = some q → q.1 < n ∧ M q.1 = some q.2
  | 0, k, q, h => by simp [zws] at h
  | n + 1, k, q, h => by
    unfold zws at h
    by_cases hl : k < (zws M n).length
    · rw [List.getElem?_append_left hl] at h
      obtain ⟨h1, h2⟩ := zws_lt M n k q h
      exact ⟨by omega, h2⟩
    · rw [List.getElem?_append_right (by omega)] at h
      cases hM : M n with
      | none => rw [hM] at h; simp at h
      | some e =>
        rw [hM] at h
        have hz : k - (zws M n).length < 1 := (List.getElem?_eq_some_iff.mp h).1
        rw [show k - (zws M n).length = 0 by omega] at h
        cases h
        exact ⟨by show n < n + 1; omega, hM⟩
theorem zws_in (M : zVw) : ∀ (n a : Nat) (e : va_E), a < n → M a = some e → ∃ k : Nat, (zws M n)[k]? = some (a, e)
  | 0, a, e, h, _ => absurd h (by omega)
  | n + 1, a, e, h, hM => by
    by_cases ha : a < n
    · obtain ⟨k, hk⟩ := zws_in M n a e ha hM
      refine ⟨k, ?_⟩
      unfold zws
      rw [List.getElem?_append_left (List.getElem?_eq_some_iff.mp hk).1]
      exact hk
    · have e1 : a = n := by omega
      subst e1
      refine ⟨(zws M a).length, ?_⟩
      show (zws M a ++ (match M a with | some e => [(a, e)] | none => []))[(zws M a).length]? = _
      rw [List.getElem?_append_right (Nat.le_refl _), hM, Nat.sub_self]
      rfl
theorem zws_nd (M : zVw) : ∀ (n i j : Nat) (p q : Nat × va_E), (zws M n)[i]? = some p → (zws M n)[j]? = some q → p.1 = q.1 → i = j
  | 0, i, j, p, q, h, _, _ => by simp [zws] at h
  | n + 1, i, j, p, q, hi, hj, hpq => by
    have key : ∀ (k : Nat) (x : Nat × va_E), (zws M (n + 1))[k]? = some x → ((zws M n)[k]? = some x ∧ x.1 < n) ∨ (k = (zws M n).length ∧ x.1 = n) := by
      intro k x h
      unfold zws at h
      by_cases hl : k < (zws M n).length
      · rw [List.getElem?_append_left hl] at h
        exact Or.inl ⟨h, (zws_lt M n k x h).1⟩
      · rw [List.getElem?_append_right (by omega)] at h
        cases hM : M n with
        | none => rw [hM] at h; simp at h
        | some e =>
          rw [hM] at h
          have hz : k - (zws M n).length < 1 := (List.getElem?_eq_some_iff.mp h).1
          have hk : k = (zws M n).length := by omega
          rw [show k - (zws M n).length = 0 by omega] at h
          cases h
          exact Or.inr ⟨hk, rfl⟩
    rcases key i p hi with ⟨a1, a2⟩ | ⟨a1, a2⟩ <;> rcases key j q hj with ⟨b1, b2⟩ | ⟨b1, b2⟩
    · exact zws_nd M n i j p q a1 b1 hpq
    · omega
    · omega
    · omega
/-- a view as one of the kit's lists of cells, so that the kit's rows serve views -/
theorem zv_ws {D : va_G} {cl : List vw_C} {M : zVw} {H : Heap} {z : Nat} (h : zhv D cl M H) (hd : zhd z M) :
    ∃ ws : va_W, va_P D cl ws H ∧ va_D (fun q => z ≤ q) ws ∧ (∀ (a : Nat) (e : va_E), M a = some e → ∃ k : Nat, ws[k]? = some (a, e)) ∧
      (∀ (k a : Nat) (e0 e : va_E) (H1 : Heap), ws[k]? = some (a, e0) → va_P D cl (ws.set k (a, e)) H1 → zhv D cl (zu M a e) H1) ∧
      (∀ (q : Nat) (e : va_E) (H1 : Heap), va_P D cl (ws ++ [(q, e)]) H1 → zhv D cl (zu M q e) H1) ∧
      (∀ (q : Nat) (e : va_E), va_D (fun q => z ≤ q) (ws ++ [(q, e)]) → M q = none ∧ z ≤ q) ∧ (∀ (k : Nat) (q : Nat × va_E), ws[k]? = some q → M q.1 = some q.2) := by
  have hin : ∀ (a : Nat) (e : va_E), M a = some e → ∃ k : Nat, (zws M H.size)[k]? = some (a, e) := fun a e hM => zws_in M H.size a e (h a e hM).lt hM
  refine ⟨zws M H.size, fun k q hk => h q.1 q.2 (zws_lt M _ k q hk).2, ⟨zws_nd M H.size, fun k q hk => hd q.1 q.2 (zws_lt M _ k q hk).2⟩, hin, ?_, ?_, ?_, fun k q hk => (zws_lt M _ k q hk).2⟩
  · intro k a e0 e H1 hk hP b e2 hb
    have hl := (List.getElem?_eq_some_iff.mp hk).1
    by_cases hba : b = a
    · subst hba
      rw [zu_s] at hb
      cases hb
      exact hP k (b, e) (by rw [List.getElem?_set_self hl])
    · rw [zu_n hba] at hb
      obtain ⟨j, hj⟩ := hin b e2 hb
      have hjk : k ≠ j := fun q => by subst q; rw [hk] at hj; cases hj; exact hba rfl
      exact hP j (b, e2) (by rw [List.getElem?_set_ne hjk]; exact hj)
  · intro q e H1 hP b e2 hb
    by_cases hbq : b = q
    · subst hbq
      rw [zu_s] at hb
      cases hb
      exact hP (zws M H.size).length (b, e) (by rw [List.getElem?_append_right (Nat.le_refl _), Nat.sub_self]; rfl)
    · rw [zu_n hbq] at hb
      obtain ⟨j, hj⟩ := hin b e2 hb
      exact hP j (b, e2) (by rw [List.getElem?_append_left (List.getElem?_eq_some_iff.mp hj).1]; exact hj)
  · intro q e hD
    have hlast : (zws M H.size ++ [(q, e)])[(zws M H.size).length]? = some (q, e) := by rw [List.getElem?_append_right (Nat.le_refl _), Nat.sub_self]; rfl
    refine ⟨?_, hD.2 _ _ hlast⟩
    cases hM : M q with
    | none => rfl
    | some e2 =>
      obtain ⟨j, hj⟩ := hin q e2 hM
      have hjl := (List.getElem?_eq_some_iff.mp hj).1
      have := hD.1 j _ (q, e2) (q, e) (by rw [List.getElem?_append_left hjl]; exact hj) hlast rfl
      omega
theorem zhd_u {z a : Nat} {M : zVw} {e : va_E} (h : zhd z M) (ha : z ≤ a) : zhd z (zu M a e) := by
  intro q e2 hq
  by_cases hqa : q = a
  · subst hqa; exact ha
  · rw [zu_n hqa] at hq
    exact h q e2 hq
