/-! ADDITIONS, written by wip/whole/genadd.py. -/
theorem zAt_x {M M' : zVw} {rl : Nat → Nat} {x r : Nat} {e : va_E} (hk : ∀ x, M x ≠ none → M' x = M x) (h : zAt M rl x r e) : zAt M' rl x r e := ⟨by rw [hk x (by rw [h.1]; exact fun q => by cases q)]; exact h.1, h.2⟩
theorem zLr_x {M M' : zVw} {rl : Nat → Nat} {dA : Nat → ClassId} {a ra ed re n : Nat} {ea : Nat → Nat} (hk : ∀ x, M x ≠ none → M' x = M x) (h : zLr M rl dA a ra ed re n ea) : zLr M' rl dA a ra ed re n ea := by
  obtain ⟨cap, g, mo, ⟨q1, q2⟩, q3⟩ := h
  refine ⟨cap, g, mo, ⟨by rw [hk a (by rw [q1]; exact fun q => by cases q)]; exact q1, ?_⟩, q3⟩
  rcases q2 with q2 | ⟨q7, q8⟩
  · exact Or.inl q2
  · exact Or.inr ⟨by rw [hk ed (by rw [q7]; exact fun q => by cases q)]; exact q7, q8⟩
theorem rep_ext {M M' : zVw} {rl : Nat → Nat} {dA : Nat → ClassId} {A : Nat → Nat → Nat} {S : Nat → Nat → Nat → Int32} {N : Nat → Nat → Nat} {T : Nat → Int64} (hr : zRep M rl dA A S N T) (hk : ∀ x, M x ≠ none → M' x = M x) : zRep M' rl dA A S N T := by
  obtain ⟨h1, h2, h3, h4, h5, ⟨g6, h6, h6b⟩, h7, h8, h9, h10, h11, b⟩ := hr
  exact ⟨zAt_x hk h1, zLr_x hk h2, zLr_x hk h3, zAt_x hk h4, zAt_x hk h5, ⟨g6, zAt_x hk h6, h6b⟩, fun j hj => ⟨zAt_x hk (h7 j hj).1, zAt_x hk (h7 j hj).2.1, (h7 j hj).2.2⟩, fun i hi => zAt_x hk (h8 i hi), fun d hd => ⟨zAt_x hk (h9 d hd).1, (h9 d hd).2.1, zLr_x hk (h9 d hd).2.2.1, zLr_x hk (h9 d hd).2.2.2.1, (h9 d hd).2.2.2.2⟩, fun d j hd hj => ⟨zAt_x hk (h10 d j hd hj).1, (h10 d j hd hj).2⟩, fun d j hd hj => ⟨zAt_x hk (h11 d j hd hj).1, (h11 d j hd hj).2⟩, b⟩
theorem zFr_x {M M' : zVw} {rl : Nat → Nat} (hk : ∀ x, M x ≠ none → M' x = M x) : zFr M rl M' rl := fun x hx _ => ⟨hk x hx, rfl⟩
theorem zu_x {M : zVw} {q : Nat} {e : va_E} (h : M q = none) : ∀ x, M x ≠ none → zu M q e x = M x := fun x hx => zu_n (fun w => hx (by rw [w]; exact h))
set_option maxHeartbeats 4000000 in
set_option maxRecDepth 100000 in
theorem rep_row {M M' : zVw} {rl : Nat → Nat} {dA : Nat → ClassId} {A : Nat → Nat → Nat} {S : Nat → Nat → Nat → Int32} {N : Nat → Nat → Nat} {T : Nat → Int64} {q ed' cap' : Nat} {g' : Nat → Option Nat} {mo' : Int32} {d0 j0 : Nat} {R0 : Nat → Int32} (hr : zRep M rl dA A S N T) (hd0 : d0 < 8) (hj0 : j0 < N 0 0) (hn : N 3 d0 < 30) (f1 : M q = none) (hL : zLs M' dA (A 5 d0) ed' (N 3 d0 + 1) cap' g' mo') (hM1 : M' q = some (aA (A 1 j0) R0)) (hed : (rl ed' = zr 7 d0 ∧ M ed' ≠ none) ∨ (M ed' = none ∧ ed' ≠ q)) (heda : ed' ≠ A 5 d0) (hcap : cap' ≤ 1000) (hg : ∀ j, j < N 3 d0 → g' j = some (A 9 (100 * d0 + j))) (hg1 : g' (N 3 d0) = some q) (hkeep : ∀ x, x ≠ A 5 d0 → x ≠ ed' → x ≠ q → M' x = M x) :
    ∃ rl' A', zRep M' rl' dA A' (zS S 5 (100 * d0 + N 3 d0) R0) (zN1 (zN1 N 3 d0 (N 3 d0 + 1)) 5 (100 * d0 + N 3 d0) j0) T ∧ zFr M rl M' rl' ∧ (∀ t i, t ≠ 7 → t ≠ 9 → A' t i = A t i) ∧ A' 0 0 = A 0 0 ∧ A' 9 (100 * d0 + N 3 d0) = q := by
  obtain ⟨h1, h2, h3, h4, h5, ⟨g6, h6, h6b⟩, h7, h8, h9, h10, h11, b1, b2, b3⟩ := hr
  have l1 : rl (A 5 d0) = zr 5 d0 := by obtain ⟨_, _, _, _, _, w, _⟩ := (h9 d0 hd0).2.2.1; exact w
  have m1 : M (A 5 d0) ≠ none := by
    obtain ⟨_, _, _, w, _⟩ := (h9 d0 hd0).2.2.1
    rw [w.1]
    exact fun u => by cases u
  obtain ⟨rl', erl⟩ : ∃ rl', rl' = va_up (va_up rl q (zr 9 (100 * d0 + N 3 d0))) ed' (zr 7 d0) := ⟨_, rfl⟩
  have hfr : ∀ x, M x ≠ none → x ≠ ed' → rl' x = rl x := fun x hx he => by
    rw [erl, va_up_ne _ _ he, va_up_ne _ _ (fun u => hx (by rw [u]; exact f1))]
  have hned : ∀ x, M x ≠ none → rl x ≠ zr 7 d0 → x ≠ ed' := fun x hx hr u => by
    rcases hed with ⟨w, _⟩ | ⟨w, _⟩
    · exact hr (by rw [u]; exact w)
    · exact hx (by rw [u]; exact w)
  have hk : ∀ x, M x ≠ none → rl x ≠ zr 5 d0 → rl x ≠ zr 7 d0 → M' x = M x ∧ rl' x = rl x := fun x hx ha hb =>
    ⟨hkeep x (fun u => ha (by rw [u]; exact l1)) (hned x hx hb) (fun u => hx (by rw [u]; exact f1)), hfr x hx (hned x hx hb)⟩
  have r1 : rl' q = zr 9 (100 * d0 + N 3 d0) := by
    have : q ≠ ed' := fun u => by
      rcases hed with ⟨_, w⟩ | ⟨_, w⟩
      · exact w (by rw [← u]; exact f1)
      · exact w u.symm
    rw [erl, va_up_ne _ _ this, va_up_self]
  have rla : rl' (A 5 d0) = zr 5 d0 := by rw [hfr _ m1 (fun u => heda u.symm)]; exact l1
  have rle : rl' ed' = zr 7 d0 := by rw [erl, va_up_self]
  obtain ⟨A', eA⟩ : ∃ A', A' = zA (zA A 7 d0 ed') 9 (100 * d0 + N 3 d0) q := ⟨_, rfl⟩
  have at3 : ∀ t i, t ≠ 7 → t ≠ 9 → A' t i = A t i := fun t i x0 x1 => by rw [eA, zA_t x1, zA_t x0]
  have a7n : ∀ i, i ≠ d0 → A' 7 i = A 7 i := fun i hi => by rw [eA, zA_t (by decide), zA_n hi]
  have a7e : A' 7 d0 = ed' := by rw [eA, zA_t (by decide), zA_e]
  have a9n : ∀ i, i ≠ 100 * d0 + N 3 d0 → A' 9 i = A 9 i := fun i hi => by rw [eA, zA_n hi, zA_t (by decide)]
  have a9e : A' 9 (100 * d0 + N 3 d0) = q := by rw [eA, zA_e]
  obtain ⟨N', eN⟩ : ∃ N', N' = zN1 (zN1 N 3 d0 (N 3 d0 + 1)) 5 (100 * d0 + N 3 d0) j0 := ⟨_, rfl⟩
  have nt : ∀ t i, t ≠ 3 → t ≠ 5 → N' t i = N t i := fun t i x0 x1 => by rw [eN, zN_t x1, zN_t x0]
  have n3n : ∀ i, i ≠ d0 → N' 3 i = N 3 i := fun i hi => by rw [eN, zN_t (by decide), zN_n hi]
  have n3e : N' 3 d0 = N 3 d0 + 1 := by rw [eN, zN_t (by decide), zN_e]
  have n5n : ∀ i, i ≠ 100 * d0 + N 3 d0 → N' 5 i = N 5 i := fun i hi => by rw [eN, zN_n hi, zN_t (by decide)]
  have n5e : N' 5 (100 * d0 + N 3 d0) = j0 := by rw [eN, zN_e]
  have s3 : ∀ t i, t ≠ 5 → zS S 5 (100 * d0 + N 3 d0) R0 t i = S t i := fun t i x0 => zS_t x0
  rw [← eN]
  refine ⟨rl', A', ?_, fun x hx hr => hk x hx (by unfold zr; omega) (by unfold zr; omega), at3, at3 0 0 (by decide) (by decide), a9e⟩
  unfold zRep
  rw [at3 0 0 (by decide) (by decide), at3 0 1 (by decide) (by decide), at3 0 2 (by decide) (by decide), at3 0 3 (by decide) (by decide), at3 0 4 (by decide) (by decide), at3 0 5 (by decide) (by decide), at3 0 6 (by decide) (by decide), at3 0 7 (by decide) (by decide), nt 0 0 (by decide) (by decide), nt 1 0 (by decide) (by decide), nt 2 0 (by decide) (by decide), s3 3 0 (by decide)]
  have e1 : A' 1 = A 1 := by funext i; exact at3 1 i (by decide) (by decide)
  have e3 : A' 3 = A 3 := by funext i; exact at3 3 i (by decide) (by decide)
  rw [e1, e3]
  have c1 := zAt_k2 hk h1 (fun u => by have v : zr 0 0 = 0 := rfl; rw [v] at u; unfold zr at u; omega) (fun u => by have v : zr 0 0 = 0 := rfl; rw [v] at u; unfold zr at u; omega)
  have c2 := zLr_k2 hk h2 (by unfold zr; omega) (by unfold zr; omega) (by unfold zr; omega) (by unfold zr; omega)
  have c3 := zLr_k2 hk h3 (by unfold zr; omega) (by unfold zr; omega) (by unfold zr; omega) (by unfold zr; omega)
  have c4 := zAt_k2 hk h4 (by unfold zr; omega) (by unfold zr; omega)
  have c5 := zAt_k2 hk h5 (by unfold zr; omega) (by unfold zr; omega)
  have c6 := zAt_k2 hk h6 (by unfold zr; omega) (by unfold zr; omega)
  refine ⟨c1, c2, c3, c4, c5, ⟨g6, c6, fun d hd => by rw [at3 4 d (by decide) (by decide)]; exact h6b d hd⟩, fun j hj => ?_, fun i hi => ?_, fun d hd => ?_, fun d j hd hj => ?_, fun d j hd hj => ?_, b1, b2, b3⟩
  · rw [at3 2 j (by decide) (by decide), s3 0 j (by decide), s3 1 j (by decide)]
    exact ⟨zAt_k2 hk (h7 j hj).1 (by unfold zr; omega) (by unfold zr; omega), zAt_k2 hk (h7 j hj).2.1 (by unfold zr; omega) (by unfold zr; omega), (h7 j hj).2.2⟩
  · rw [s3 2 i (by decide)]
    exact zAt_k2 hk (h8 i hi) (by unfold zr; omega) (by unfold zr; omega)
  · have w := h9 d hd
    have e10 : (fun j => A' 10 (100 * d + j)) = fun j => A 10 (100 * d + j) := by funext j; exact at3 10 _ (by decide) (by decide)
    rw [nt 4 d (by decide) (by decide), at3 4 d (by decide) (by decide), at3 5 d (by decide) (by decide), at3 6 d (by decide) (by decide), at3 8 d (by decide) (by decide), s3 4 d (by decide), e10]
    by_cases e : d = d0
    · subst e
      rw [a7e, n3e]
      exact ⟨zAt_k2 hk w.1 (by unfold zr; omega) (by unfold zr; omega), w.2.1, ⟨cap', g', mo', hL, hcap, rla, Or.inr rle, fun i hi => by
        by_cases e2 : i = N 3 d
        · subst e2; show g' _ = some (A' 9 (100 * d + _)); rw [a9e]; exact hg1
        · show g' i = some (A' 9 (100 * d + i)); rw [a9n (100 * d + i) (by omega)]; exact hg i (by omega)⟩, zLr_k2 hk w.2.2.2.1 (by unfold zr; omega) (by unfold zr; omega) (by unfold zr; omega) (by unfold zr; omega), by omega, w.2.2.2.2.2⟩
    · have w9 := w.2.2.2.2
      have e9 : zLr M' rl' dA (A 5 d) (zr 5 d) (A 7 d) (zr 7 d) (N 3 d) (fun j => A' 9 (100 * d + j)) := by
        obtain ⟨c7, g7, m7, x1, x2, x3, x4, x5⟩ := zLr_k2 hk w.2.2.1 (by unfold zr; omega) (by unfold zr; omega) (by unfold zr; omega) (by unfold zr; omega)
        exact ⟨c7, g7, m7, x1, x2, x3, x4, fun i hi => by show g7 i = some (A' 9 (100 * d + i)); rw [a9n (100 * d + i) (by omega)]; exact x5 i hi⟩
      rw [a7n d e, n3n d e]
      exact ⟨zAt_k2 hk w.1 (by unfold zr; omega) (by unfold zr; omega), w.2.1, e9, zLr_k2 hk w.2.2.2.1 (by unfold zr; omega) (by unfold zr; omega) (by unfold zr; omega) (by unfold zr; omega), w.2.2.2.2⟩
  · have w9 := (h9 d hd).2.2.2.2
    by_cases e : 100 * d + j = 100 * d0 + N 3 d0
    · rw [e, a9e, n5e, zS_e]
      exact ⟨⟨hM1, r1⟩, hj0⟩
    · have hj' : j < N 3 d := by
        by_cases e2 : d = d0
        · subst e2; rw [n3e] at hj; omega
        · rw [n3n d e2] at hj; exact hj
      have w := h10 d j hd hj'
      rw [a9n _ e, n5n _ e, zS_n e]
      exact ⟨zAt_k2 hk w.1 (by unfold zr; omega) (by unfold zr; omega), w.2⟩
  · rw [nt 4 d (by decide) (by decide)] at hj
    have w := h11 d j hd hj
    have w9 := (h9 d hd).2.2.2.2
    rw [at3 10 _ (by decide) (by decide), s3 6 _ (by decide)]
    exact ⟨zAt_k2 hk w.1 (by unfold zr; omega) (by unfold zr; omega), w.2⟩
set_option maxHeartbeats 4000000 in
set_option maxRecDepth 100000 in
theorem rep_kn {M M' : zVw} {rl : Nat → Nat} {dA : Nat → ClassId} {A : Nat → Nat → Nat} {S : Nat → Nat → Nat → Int32} {N : Nat → Nat → Nat} {T : Nat → Int64} {q ed' cap' : Nat} {g' : Nat → Option Nat} {mo' : Int32} {d0 : Nat} {R0 : Nat → Int32} (hr : zRep M rl dA A S N T) (hd0 : d0 < 8) (hn : N 4 d0 < N 0 0) (hb : R0 2 = 0 ∨ R0 2 = 1) (f1 : M q = none) (hL : zLs M' dA (A 6 d0) ed' (N 4 d0 + 1) cap' g' mo') (hM1 : M' q = some (fA R0)) (hed : (rl ed' = zr 8 d0 ∧ M ed' ≠ none) ∨ (M ed' = none ∧ ed' ≠ q)) (heda : ed' ≠ A 6 d0) (hcap : cap' ≤ 1000) (hg : ∀ j, j < N 4 d0 → g' j = some (A 10 (100 * d0 + j))) (hg1 : g' (N 4 d0) = some q) (hkeep : ∀ x, x ≠ A 6 d0 → x ≠ ed' → x ≠ q → M' x = M x) :
    ∃ rl' A', zRep M' rl' dA A' (zS S 6 (100 * d0 + N 4 d0) R0) (zN1 N 4 d0 (N 4 d0 + 1)) T ∧ zFr M rl M' rl' ∧ (∀ t i, t ≠ 8 → t ≠ 10 → A' t i = A t i) ∧ A' 0 0 = A 0 0 ∧ A' 10 (100 * d0 + N 4 d0) = q := by
  obtain ⟨h1, h2, h3, h4, h5, ⟨g6, h6, h6b⟩, h7, h8, h9, h10, h11, b1, b2, b3⟩ := hr
  have l1 : rl (A 6 d0) = zr 6 d0 := by obtain ⟨_, _, _, _, _, w, _⟩ := (h9 d0 hd0).2.2.2.1; exact w
  have m1 : M (A 6 d0) ≠ none := by
    obtain ⟨_, _, _, w, _⟩ := (h9 d0 hd0).2.2.2.1
    rw [w.1]
    exact fun u => by cases u
  obtain ⟨rl', erl⟩ : ∃ rl', rl' = va_up (va_up rl q (zr 10 (100 * d0 + N 4 d0))) ed' (zr 8 d0) := ⟨_, rfl⟩
  have hfr : ∀ x, M x ≠ none → x ≠ ed' → rl' x = rl x := fun x hx he => by
    rw [erl, va_up_ne _ _ he, va_up_ne _ _ (fun u => hx (by rw [u]; exact f1))]
  have hned : ∀ x, M x ≠ none → rl x ≠ zr 8 d0 → x ≠ ed' := fun x hx hr u => by
    rcases hed with ⟨w, _⟩ | ⟨w, _⟩
    · exact hr (by rw [u]; exact w)
    · exact hx (by rw [u]; exact w)
  have hk : ∀ x, M x ≠ none → rl x ≠ zr 6 d0 → rl x ≠ zr 8 d0 → M' x = M x ∧ rl' x = rl x := fun x hx ha hb =>
    ⟨hkeep x (fun u => ha (by rw [u]; exact l1)) (hned x hx hb) (fun u => hx (by rw [u]; exact f1)), hfr x hx (hned x hx hb)⟩
  have r1 : rl' q = zr 10 (100 * d0 + N 4 d0) := by
    have : q ≠ ed' := fun u => by
      rcases hed with ⟨_, w⟩ | ⟨_, w⟩
      · exact w (by rw [← u]; exact f1)
      · exact w u.symm
    rw [erl, va_up_ne _ _ this, va_up_self]
  have rla : rl' (A 6 d0) = zr 6 d0 := by rw [hfr _ m1 (fun u => heda u.symm)]; exact l1
  have rle : rl' ed' = zr 8 d0 := by rw [erl, va_up_self]
  obtain ⟨A', eA⟩ : ∃ A', A' = zA (zA A 8 d0 ed') 10 (100 * d0 + N 4 d0) q := ⟨_, rfl⟩
  have at3 : ∀ t i, t ≠ 8 → t ≠ 10 → A' t i = A t i := fun t i x0 x1 => by rw [eA, zA_t x1, zA_t x0]
  have a7n : ∀ i, i ≠ d0 → A' 8 i = A 8 i := fun i hi => by rw [eA, zA_t (by decide), zA_n hi]
  have a7e : A' 8 d0 = ed' := by rw [eA, zA_t (by decide), zA_e]
  have a9n : ∀ i, i ≠ 100 * d0 + N 4 d0 → A' 10 i = A 10 i := fun i hi => by rw [eA, zA_n hi, zA_t (by decide)]
  have a9e : A' 10 (100 * d0 + N 4 d0) = q := by rw [eA, zA_e]
  obtain ⟨N', eN⟩ : ∃ N', N' = zN1 N 4 d0 (N 4 d0 + 1) := ⟨_, rfl⟩
  have nt : ∀ t i, t ≠ 4 → N' t i = N t i := fun t i x0 => by rw [eN, zN_t x0]
  have n3n : ∀ i, i ≠ d0 → N' 4 i = N 4 i := fun i hi => by rw [eN, zN_n hi]
  have n3e : N' 4 d0 = N 4 d0 + 1 := by rw [eN, zN_e]
  have s3 : ∀ t i, t ≠ 6 → zS S 6 (100 * d0 + N 4 d0) R0 t i = S t i := fun t i x0 => zS_t x0
  have w0 := (h9 d0 hd0).2.2.2.2
  rw [← eN]
  refine ⟨rl', A', ?_, fun x hx hr => hk x hx (by unfold zr; omega) (by unfold zr; omega), at3, at3 0 0 (by decide) (by decide), a9e⟩
  unfold zRep
  rw [at3 0 0 (by decide) (by decide), at3 0 1 (by decide) (by decide), at3 0 2 (by decide) (by decide), at3 0 3 (by decide) (by decide), at3 0 4 (by decide) (by decide), at3 0 5 (by decide) (by decide), at3 0 6 (by decide) (by decide), at3 0 7 (by decide) (by decide), nt 0 0 (by decide), nt 1 0 (by decide), nt 2 0 (by decide), s3 3 0 (by decide)]
  have e1 : A' 1 = A 1 := by funext i; exact at3 1 i (by decide) (by decide)
  have e3 : A' 3 = A 3 := by funext i; exact at3 3 i (by decide) (by decide)
  rw [e1, e3]
  have c1 := zAt_k2 hk h1 (fun u => by have v : zr 0 0 = 0 := rfl; rw [v] at u; unfold zr at u; omega) (fun u => by have v : zr 0 0 = 0 := rfl; rw [v] at u; unfold zr at u; omega)
  have c2 := zLr_k2 hk h2 (by unfold zr; omega) (by unfold zr; omega) (by unfold zr; omega) (by unfold zr; omega)
  have c3 := zLr_k2 hk h3 (by unfold zr; omega) (by unfold zr; omega) (by unfold zr; omega) (by unfold zr; omega)
  have c4 := zAt_k2 hk h4 (by unfold zr; omega) (by unfold zr; omega)
  have c5 := zAt_k2 hk h5 (by unfold zr; omega) (by unfold zr; omega)
  have c6 := zAt_k2 hk h6 (by unfold zr; omega) (by unfold zr; omega)
  refine ⟨c1, c2, c3, c4, c5, ⟨g6, c6, fun d hd => by rw [at3 4 d (by decide) (by decide)]; exact h6b d hd⟩, fun j hj => ?_, fun i hi => ?_, fun d hd => ?_, fun d j hd hj => ?_, fun d j hd hj => ?_, b1, b2, b3⟩
  · rw [at3 2 j (by decide) (by decide), s3 0 j (by decide), s3 1 j (by decide)]
    exact ⟨zAt_k2 hk (h7 j hj).1 (by unfold zr; omega) (by unfold zr; omega), zAt_k2 hk (h7 j hj).2.1 (by unfold zr; omega) (by unfold zr; omega), (h7 j hj).2.2⟩
  · rw [s3 2 i (by decide)]
    exact zAt_k2 hk (h8 i hi) (by unfold zr; omega) (by unfold zr; omega)
  · have w := h9 d hd
    have e10 : (fun j => A' 9 (100 * d + j)) = fun j => A 9 (100 * d + j) := by funext j; exact at3 9 _ (by decide) (by decide)
    rw [nt 3 d (by decide), at3 4 d (by decide) (by decide), at3 5 d (by decide) (by decide), at3 6 d (by decide) (by decide), at3 7 d (by decide) (by decide), s3 4 d (by decide), e10]
    by_cases e : d = d0
    · subst e
      rw [a7e, n3e]
      exact ⟨zAt_k2 hk w.1 (by unfold zr; omega) (by unfold zr; omega), w.2.1, zLr_k2 hk w.2.2.1 (by unfold zr; omega) (by unfold zr; omega) (by unfold zr; omega) (by unfold zr; omega), ⟨cap', g', mo', hL, hcap, rla, Or.inr rle, fun i hi => by
        by_cases e2 : i = N 4 d
        · subst e2; show g' _ = some (A' 10 (100 * d + _)); rw [a9e]; exact hg1
        · show g' i = some (A' 10 (100 * d + i)); rw [a9n (100 * d + i) (by omega)]; exact hg i (by omega)⟩, by omega, by omega⟩
    · have w9 := w.2.2.2.2
      have e9 : zLr M' rl' dA (A 6 d) (zr 6 d) (A 8 d) (zr 8 d) (N 4 d) (fun j => A' 10 (100 * d + j)) := by
        obtain ⟨c7, g7, m7, x1, x2, x3, x4, x5⟩ := zLr_k2 hk w.2.2.2.1 (by unfold zr; omega) (by unfold zr; omega) (by unfold zr; omega) (by unfold zr; omega)
        exact ⟨c7, g7, m7, x1, x2, x3, x4, fun i hi => by show g7 i = some (A' 10 (100 * d + i)); rw [a9n (100 * d + i) (by omega)]; exact x5 i hi⟩
      rw [a7n d e, n3n d e]
      exact ⟨zAt_k2 hk w.1 (by unfold zr; omega) (by unfold zr; omega), w.2.1, zLr_k2 hk w.2.2.1 (by unfold zr; omega) (by unfold zr; omega) (by unfold zr; omega) (by unfold zr; omega), e9, w.2.2.2.2⟩
  · rw [nt 3 d (by decide)] at hj
    have w := h10 d j hd hj
    have w9 := (h9 d hd).2.2.2.2
    rw [at3 9 _ (by decide) (by decide), nt 5 _ (by decide), s3 5 _ (by decide)]
    exact ⟨zAt_k2 hk w.1 (by unfold zr; omega) (by unfold zr; omega), w.2⟩
  · have w9 := (h9 d hd).2.2.2.2
    by_cases e : 100 * d + j = 100 * d0 + N 4 d0
    · rw [e, a9e, zS_e]
      exact ⟨⟨hM1, r1⟩, hb⟩
    · have hj' : j < N 4 d := by
        by_cases e2 : d = d0
        · subst e2; rw [n3e] at hj; omega
        · rw [n3n d e2] at hj; exact hj
      have w := h11 d j hd hj'
      rw [a9n _ e, zS_n e]
      exact ⟨zAt_k2 hk w.1 (by unfold zr; omega) (by unfold zr; omega), w.2⟩
set_option maxHeartbeats 4000000 in
set_option maxRecDepth 100000 in
theorem rep_clash {M M' : zVw} {rl : Nat → Nat} {dA : Nat → ClassId} {A : Nat → Nat → Nat} {S : Nat → Nat → Nat → Int32} {N : Nat → Nat → Nat} {T : Nat → Int64} {q ed' cap' : Nat} {g' : Nat → Option Nat} {mo' : Int32} {c0 c1 c2 : Int32} (hr : zRep M rl dA A S N T) (hn : N 1 0 < 512) (f1 : M q = none) (hL : zLs M' dA (A 0 2) ed' (N 1 0 + 1) cap' g' mo') (hM1 : M' q = some (.inr (2, [.int c0, .int c1, .int c2]))) (hed : (rl ed' = zr 0 7 ∧ M ed' ≠ none) ∨ (M ed' = none ∧ ed' ≠ q)) (heda : ed' ≠ A 0 2) (hcap : cap' ≤ 1000) (hg : ∀ j, j < N 1 0 → g' j = some (A 3 (j))) (hg1 : g' (N 1 0) = some q) (hkeep : ∀ x, x ≠ A 0 2 → x ≠ ed' → x ≠ q → M' x = M x) :
    ∃ rl' A', zRep M' rl' dA A' (zS S 2 (N 1 0) (fun k => if k = 0 then c0 else if k = 1 then c1 else c2)) (zN1 N 1 0 (N 1 0 + 1)) T ∧ zFr M rl M' rl' ∧ (∀ t i, t ≠ 0 → t ≠ 3 → A' t i = A t i) ∧ A' 0 0 = A 0 0 ∧ A' 3 (N 1 0) = q := by
  obtain ⟨h1, h2, h3, h4, h5, ⟨g6, h6, h6b⟩, h7, h8, h9, h10, h11, b1, b2, b3⟩ := hr
  have l1 : rl (A 0 2) = zr 0 2 := by obtain ⟨_, _, _, _, _, w, _⟩ := h3; exact w
  have m1 : M (A 0 2) ≠ none := by
    obtain ⟨_, _, _, w, _⟩ := h3
    rw [w.1]
    exact fun u => by cases u
  obtain ⟨rl', erl⟩ : ∃ rl', rl' = va_up (va_up rl q (zr 3 (N 1 0))) ed' (zr 0 7) := ⟨_, rfl⟩
  have hfr : ∀ x, M x ≠ none → x ≠ ed' → rl' x = rl x := fun x hx he => by
    rw [erl, va_up_ne _ _ he, va_up_ne _ _ (fun u => hx (by rw [u]; exact f1))]
  have hned : ∀ x, M x ≠ none → rl x ≠ zr 0 7 → x ≠ ed' := fun x hx hr u => by
    rcases hed with ⟨w, _⟩ | ⟨w, _⟩
    · exact hr (by rw [u]; exact w)
    · exact hx (by rw [u]; exact w)
  have hk : ∀ x, M x ≠ none → rl x ≠ zr 0 2 → rl x ≠ zr 0 7 → M' x = M x ∧ rl' x = rl x := fun x hx ha hb =>
    ⟨hkeep x (fun u => ha (by rw [u]; exact l1)) (hned x hx hb) (fun u => hx (by rw [u]; exact f1)), hfr x hx (hned x hx hb)⟩
  have r1 : rl' q = zr 3 (N 1 0) := by
    have : q ≠ ed' := fun u => by
      rcases hed with ⟨_, w⟩ | ⟨_, w⟩
      · exact w (by rw [← u]; exact f1)
      · exact w u.symm
    rw [erl, va_up_ne _ _ this, va_up_self]
  have rla : rl' (A 0 2) = zr 0 2 := by rw [hfr _ m1 (fun u => heda u.symm)]; exact l1
  have rle : rl' ed' = zr 0 7 := by rw [erl, va_up_self]
  obtain ⟨A', eA⟩ : ∃ A', A' = zA (zA A 0 7 ed') 3 (N 1 0) q := ⟨_, rfl⟩
  have at3 : ∀ t i, t ≠ 0 → t ≠ 3 → A' t i = A t i := fun t i x0 x1 => by rw [eA, zA_t x1, zA_t x0]
  have a0n : ∀ i, i ≠ 7 → A' 0 i = A 0 i := fun i hi => by rw [eA, zA_t (by decide), zA_n hi]
  have a0e : A' 0 7 = ed' := by rw [eA, zA_t (by decide), zA_e]
  have a3n : ∀ i, i ≠ N 1 0 → A' 3 i = A 3 i := fun i hi => by rw [eA, zA_n hi, zA_t (by decide)]
  have a3e : A' 3 (N 1 0) = q := by rw [eA, zA_e]
  obtain ⟨N', eN⟩ : ∃ N', N' = zN1 N 1 0 (N 1 0 + 1) := ⟨_, rfl⟩
  have nt : ∀ t i, t ≠ 1 → N' t i = N t i := fun t i x0 => by rw [eN, zN_t x0]
  have n1e : N' 1 0 = N 1 0 + 1 := by rw [eN, zN_e]
  obtain ⟨F, eF⟩ : ∃ F : Nat → Int32, F = fun k => if k = 0 then c0 else if k = 1 then c1 else c2 := ⟨_, rfl⟩
  have s3 : ∀ t i, t ≠ 2 → zS S 2 (N 1 0) F t i = S t i := fun t i x0 => zS_t x0
  rw [← eN, ← eF]
  refine ⟨rl', A', ?_, fun x hx hr => hk x hx (by unfold zr; omega) (by unfold zr; omega), at3, a0n 0 (by decide), a3e⟩
  unfold zRep
  rw [a0n 0 (by decide), a0n 1 (by decide), a0n 2 (by decide), a0n 3 (by decide), a0n 4 (by decide), a0n 5 (by decide), a0n 6 (by decide), a0e, nt 0 0 (by decide), n1e, nt 2 0 (by decide), s3 3 0 (by decide)]
  have e1 : A' 1 = A 1 := by funext i; exact at3 1 i (by decide) (by decide)
  rw [e1]
  have c1' := zAt_k2 hk h1 (fun u => by have v : zr 0 0 = 0 := rfl; rw [v] at u; unfold zr at u; omega) (fun u => by have v : zr 0 0 = 0 := rfl; rw [v] at u; unfold zr at u; omega)
  have c2' := zLr_k2 hk h2 (by unfold zr; omega) (by unfold zr; omega) (by unfold zr; omega) (by unfold zr; omega)
  have c4 := zAt_k2 hk h4 (by unfold zr; omega) (by unfold zr; omega)
  have c5 := zAt_k2 hk h5 (by unfold zr; omega) (by unfold zr; omega)
  have c6 := zAt_k2 hk h6 (by unfold zr; omega) (by unfold zr; omega)
  refine ⟨c1', c2', ⟨cap', g', mo', hL, hcap, rla, Or.inr rle, fun i hi => ?_⟩, c4, c5, ⟨g6, c6, fun d hd => by rw [at3 4 d (by decide) (by decide)]; exact h6b d hd⟩, fun j hj => ?_, fun i hi => ?_, fun d hd => ?_, fun d j hd hj => ?_, fun d j hd hj => ?_, b1, by omega, b3⟩
  · by_cases e2 : i = N 1 0
    · subst e2; rw [a3e]; exact hg1
    · rw [a3n _ e2]; exact hg i (by omega)
  · rw [at3 2 j (by decide) (by decide), s3 0 j (by decide), s3 1 j (by decide)]
    exact ⟨zAt_k2 hk (h7 j hj).1 (by unfold zr; omega) (by unfold zr; omega), zAt_k2 hk (h7 j hj).2.1 (by unfold zr; omega) (by unfold zr; omega), (h7 j hj).2.2⟩
  · by_cases e : i = N 1 0
    · subst e
      rw [a3e, zS_e, eF]
      exact ⟨hM1, r1⟩
    · rw [a3n _ e, zS_n e]
      exact zAt_k2 hk (h8 i (by omega)) (by unfold zr; omega) (by unfold zr; omega)
  · have w := h9 d hd
    have e9 : (fun j => A' 9 (100 * d + j)) = fun j => A 9 (100 * d + j) := by funext j; exact at3 9 _ (by decide) (by decide)
    have e10 : (fun j => A' 10 (100 * d + j)) = fun j => A 10 (100 * d + j) := by funext j; exact at3 10 _ (by decide) (by decide)
    rw [nt 3 d (by decide), nt 4 d (by decide), at3 4 d (by decide) (by decide), at3 5 d (by decide) (by decide), at3 6 d (by decide) (by decide), at3 7 d (by decide) (by decide), at3 8 d (by decide) (by decide), s3 4 d (by decide), e9, e10]
    exact ⟨zAt_k2 hk w.1 (by unfold zr; omega) (by unfold zr; omega), w.2.1, zLr_k2 hk w.2.2.1 (by unfold zr; omega) (by unfold zr; omega) (by unfold zr; omega) (by unfold zr; omega), zLr_k2 hk w.2.2.2.1 (by unfold zr; omega) (by unfold zr; omega) (by unfold zr; omega) (by unfold zr; omega), w.2.2.2.2⟩
  · rw [nt 3 d (by decide)] at hj
    have w := h10 d j hd hj
    have w9 := (h9 d hd).2.2.2.2
    rw [at3 9 _ (by decide) (by decide), nt 5 _ (by decide), s3 5 _ (by decide)]
    exact ⟨zAt_k2 hk w.1 (by unfold zr; omega) (by unfold zr; omega), w.2⟩
  · rw [nt 4 d (by decide)] at hj
    have w := h11 d j hd hj
    have w9 := (h9 d hd).2.2.2.2
    rw [at3 10 _ (by decide) (by decide), s3 6 _ (by decide)]
    exact ⟨zAt_k2 hk w.1 (by unfold zr; omega) (by unfold zr; omega), w.2⟩
