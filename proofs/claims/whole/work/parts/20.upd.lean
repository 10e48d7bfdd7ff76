/-! HOW THE CLASS'S STATE MOVES, written by wip/whole/genupd.py. -/
def zS (S : Nat → Nat → Nat → Int32) (t i : Nat) (F : Nat → Int32) : Nat → Nat → Nat → Int32 := fun t' i' => if t' = t ∧ i' = i then F else S t' i'
theorem zS_e (S : Nat → Nat → Nat → Int32) (t i : Nat) (F : Nat → Int32) : zS S t i F t i = F := if_pos ⟨rfl, rfl⟩
theorem zS_n {S : Nat → Nat → Nat → Int32} {t i i' : Nat} {F : Nat → Int32} (h : i' ≠ i) : zS S t i F t i' = S t i' := if_neg (fun q => h q.2)
theorem zS_t {S : Nat → Nat → Nat → Int32} {t t' i i' : Nat} {F : Nat → Int32} (h : t' ≠ t) : zS S t i F t' i' = S t' i' := if_neg (fun q => h q.1)
set_option maxHeartbeats 4000000 in
set_option maxRecDepth 100000 in
theorem rep_facts {M : zVw} {rl : Nat → Nat} {dA : Nat → ClassId} {A : Nat → Nat → Nat} {S : Nat → Nat → Nat → Int32} {N : Nat → Nat → Nat} {T : Nat → Int64} {j0 : Nat} {F : Nat → Int32} (hr : zRep M rl dA A S N T) (hj0 : j0 < N 0 0) (hb : F 2 = 0 ∨ F 2 = 1) : zRep (zu M (A 2 j0) (fA F)) rl dA A (zS S 1 j0 F) N T := by
  obtain ⟨h1, h2, h3, h4, h5, ⟨g6, h6, h6b⟩, h7, h8, h9, h10, h11, b1, b2, b3⟩ := hr
  have hk := zu_k (M := M) (e := fA F) (h7 j0 hj0).2.1.2
  refine ⟨zAt_k hk h1 (by unfold zr; omega), zLr_k hk h2 (by unfold zr; omega) (by unfold zr; omega), zLr_k hk h3 (by unfold zr; omega) (by unfold zr; omega), zAt_k hk h4 (by unfold zr; omega), zAt_k hk h5 (by unfold zr; omega), ⟨g6, zAt_k hk h6 (by unfold zr; omega), h6b⟩, ?_, fun i hi => zAt_k hk (h8 i hi) (by unfold zr; omega), fun d hd => ⟨zAt_k hk (h9 d hd).1 (by unfold zr; omega), (h9 d hd).2.1, zLr_k hk (h9 d hd).2.2.1 (by unfold zr; omega) (by unfold zr; omega), zLr_k hk (h9 d hd).2.2.2.1 (by unfold zr; omega) (by unfold zr; omega), (h9 d hd).2.2.2.2⟩, fun d j hd hj => ⟨zAt_k hk (h10 d j hd hj).1 (by have := (h9 d hd).2.2.2.2; unfold zr; omega), (h10 d j hd hj).2⟩, fun d j hd hj => ⟨zAt_k hk (h11 d j hd hj).1 (by have := (h9 d hd).2.2.2.2; unfold zr; omega), (h11 d j hd hj).2⟩, ⟨b1, b2, b3⟩⟩
  intro j hj
  by_cases e : j = j0
  · subst e
    rw [zS_e]
    exact ⟨zAt_k hk (h7 j hj).1 (by unfold zr; omega), ⟨zu_s _ _ _, (h7 j hj).2.1.2⟩, hb⟩
  · rw [zS_n e]
    exact ⟨zAt_k hk (h7 j hj).1 (by unfold zr; omega), zAt_k hk (h7 j hj).2.1 (by unfold zr; omega), (h7 j hj).2.2⟩
set_option maxHeartbeats 4000000 in
set_option maxRecDepth 100000 in
theorem rep_due {M : zVw} {rl : Nat → Nat} {dA : Nat → ClassId} {A : Nat → Nat → Nat} {S : Nat → Nat → Nat → Int32} {N : Nat → Nat → Nat} {T : Nat → Int64} {j0 : Nat} {x : Int32} (hr : zRep M rl dA A S N T) (hj0 : j0 < N 0 0) : zRep (zu M (A 1 j0) (iA (nI (j0 + 1)) (S 0 j0 1) (S 0 j0 2) (A 2 j0) x)) rl dA A (zS S 0 j0 (upd (S 0 j0) 4 x)) N T := by
  obtain ⟨h1, h2, h3, h4, h5, ⟨g6, h6, h6b⟩, h7, h8, h9, h10, h11, b1, b2, b3⟩ := hr
  have hk := zu_k (M := M) (e := iA (nI (j0 + 1)) (S 0 j0 1) (S 0 j0 2) (A 2 j0) x) (h7 j0 hj0).1.2
  refine ⟨zAt_k hk h1 (by unfold zr; omega), zLr_k hk h2 (by unfold zr; omega) (by unfold zr; omega), zLr_k hk h3 (by unfold zr; omega) (by unfold zr; omega), zAt_k hk h4 (by unfold zr; omega), zAt_k hk h5 (by unfold zr; omega), ⟨g6, zAt_k hk h6 (by unfold zr; omega), h6b⟩, ?_, fun i hi => zAt_k hk (h8 i hi) (by unfold zr; omega), fun d hd => ⟨zAt_k hk (h9 d hd).1 (by unfold zr; omega), (h9 d hd).2.1, zLr_k hk (h9 d hd).2.2.1 (by unfold zr; omega) (by unfold zr; omega), zLr_k hk (h9 d hd).2.2.2.1 (by unfold zr; omega) (by unfold zr; omega), (h9 d hd).2.2.2.2⟩, fun d j hd hj => ⟨zAt_k hk (h10 d j hd hj).1 (by have := (h9 d hd).2.2.2.2; unfold zr; omega), (h10 d j hd hj).2⟩, fun d j hd hj => ⟨zAt_k hk (h11 d j hd hj).1 (by have := (h9 d hd).2.2.2.2; unfold zr; omega), (h11 d j hd hj).2⟩, ⟨b1, b2, b3⟩⟩
  intro j hj
  by_cases e : j = j0
  · subst e
    rw [zS_e]
    exact ⟨⟨zu_s _ _ _, (h7 j hj).1.2⟩, zAt_k hk (h7 j hj).2.1 (by unfold zr; omega), (h7 j hj).2.2⟩
  · rw [zS_n e]
    exact ⟨zAt_k hk (h7 j hj).1 (by unfold zr; omega), zAt_k hk (h7 j hj).2.1 (by unfold zr; omega), (h7 j hj).2.2⟩
set_option maxHeartbeats 4000000 in
set_option maxRecDepth 100000 in
theorem rep_known {M : zVw} {rl : Nat → Nat} {dA : Nat → ClassId} {A : Nat → Nat → Nat} {S : Nat → Nat → Nat → Int32} {N : Nat → Nat → Nat} {T : Nat → Int64} {d0 j0 : Nat} {F : Nat → Int32} (hr : zRep M rl dA A S N T) (hd0 : d0 < 8) (hj0 : j0 < N 4 d0) (hb : F 2 = 0 ∨ F 2 = 1) : zRep (zu M (A 10 (100 * d0 + j0)) (fA F)) rl dA A (zS S 6 (100 * d0 + j0) F) N T := by
  obtain ⟨h1, h2, h3, h4, h5, ⟨g6, h6, h6b⟩, h7, h8, h9, h10, h11, b1, b2, b3⟩ := hr
  have c0 := (h9 d0 hd0).2.2.2.2
  have hk := zu_k (M := M) (e := fA F) (h11 d0 j0 hd0 hj0).1.2
  refine ⟨zAt_k hk h1 (by unfold zr; omega), zLr_k hk h2 (by unfold zr; omega) (by unfold zr; omega), zLr_k hk h3 (by unfold zr; omega) (by unfold zr; omega), zAt_k hk h4 (by unfold zr; omega), zAt_k hk h5 (by unfold zr; omega), ⟨g6, zAt_k hk h6 (by unfold zr; omega), h6b⟩, fun j hj => ⟨zAt_k hk (h7 j hj).1 (by unfold zr; omega), zAt_k hk (h7 j hj).2.1 (by unfold zr; omega), (h7 j hj).2.2⟩, fun i hi => zAt_k hk (h8 i hi) (by unfold zr; omega), fun d hd => ⟨zAt_k hk (h9 d hd).1 (by unfold zr; omega), (h9 d hd).2.1, zLr_k hk (h9 d hd).2.2.1 (by unfold zr; omega) (by unfold zr; omega), zLr_k hk (h9 d hd).2.2.2.1 (by unfold zr; omega) (by unfold zr; omega), (h9 d hd).2.2.2.2⟩, fun d j hd hj => ⟨zAt_k hk (h10 d j hd hj).1 (by have := (h9 d hd).2.2.2.2; unfold zr; omega), (h10 d j hd hj).2⟩, ?_, ⟨b1, b2, b3⟩⟩
  intro d j hd hj
  have c1 := (h9 d hd).2.2.2.2
  by_cases e : 100 * d + j = 100 * d0 + j0
  · have e1 : d = d0 := by omega
    have e2 : j = j0 := by omega
    subst e1 e2
    rw [zS_e]
    exact ⟨⟨zu_s _ _ _, (h11 d j hd hj).1.2⟩, hb⟩
  · rw [zS_n e]
    exact ⟨zAt_k hk (h11 d j hd hj).1 (by unfold zr; omega), (h11 d j hd hj).2⟩
set_option maxHeartbeats 4000000 in
set_option maxRecDepth 100000 in
theorem rep_today {M : zVw} {rl : Nat → Nat} {dA : Nat → ClassId} {A : Nat → Nat → Nat} {S : Nat → Nat → Nat → Int32} {N : Nat → Nat → Nat} {T : Nat → Int64} {x : Int64} (hr : zRep M rl dA A S N T) : zRep (zu M (A 0 0) (zDo (A 0 1) (A 0 2) (A 0 3) (A 0 5) x)) rl dA A S N (va_up T 8 x) := by
  obtain ⟨h1, h2, h3, h4, h5, ⟨g6, h6, h6b⟩, h7, h8, h9, h10, h11, b1, b2, b3⟩ := hr
  have hk := zu_k (M := M) (e := zDo (A 0 1) (A 0 2) (A 0 3) (A 0 5) x) h1.2
  have e8 : va_up T 8 x 8 = x := va_up_self _ _ _
  have en : ∀ d, d < 8 → va_up T 8 x d = T d := fun d hd => va_up_ne _ _ (by omega)
  refine ⟨?_, zLr_k hk h2 (by unfold zr; omega) (by unfold zr; omega), zLr_k hk h3 (by unfold zr; omega) (by unfold zr; omega), zAt_k hk h4 (by unfold zr; omega), zAt_k hk h5 (by unfold zr; omega), ⟨g6, zAt_k hk h6 (by unfold zr; omega), h6b⟩, fun j hj => ⟨zAt_k hk (h7 j hj).1 (by unfold zr; omega), zAt_k hk (h7 j hj).2.1 (by unfold zr; omega), (h7 j hj).2.2⟩, fun i hi => zAt_k hk (h8 i hi) (by unfold zr; omega), ?_, fun d j hd hj => ⟨zAt_k hk (h10 d j hd hj).1 (by have := (h9 d hd).2.2.2.2; unfold zr; omega), (h10 d j hd hj).2⟩, fun d j hd hj => ⟨zAt_k hk (h11 d j hd hj).1 (by have := (h9 d hd).2.2.2.2; unfold zr; omega), (h11 d j hd hj).2⟩, ⟨b1, b2, b3⟩⟩
  · rw [e8]; exact ⟨zu_s _ _ _, h1.2⟩
  · intro d hd
    rw [en d hd]
    exact ⟨zAt_k hk (h9 d hd).1 (by unfold zr; omega), (h9 d hd).2.1, zLr_k hk (h9 d hd).2.2.1 (by unfold zr; omega) (by unfold zr; omega), zLr_k hk (h9 d hd).2.2.2.1 (by unfold zr; omega) (by unfold zr; omega), (h9 d hd).2.2.2.2⟩
set_option maxHeartbeats 4000000 in
set_option maxRecDepth 100000 in
theorem rep_dev {M : zVw} {rl : Nat → Nat} {dA : Nat → ClassId} {A : Nat → Nat → Nat} {S : Nat → Nat → Nat → Int32} {N : Nat → Nat → Nat} {T : Nat → Int64} {d0 : Nat} {x : Int32} {t : Int64} (hr : zRep M rl dA A S N T) (hd0 : d0 < 8) (hb : x = 0 ∨ x = 1) : zRep (zu M (A 4 d0) (zDv x t (A 5 d0) (A 6 d0))) rl dA A (zS S 4 d0 (fun _ => x)) N (va_up T d0 t) := by
  obtain ⟨h1, h2, h3, h4, h5, ⟨g6, h6, h6b⟩, h7, h8, h9, h10, h11, b1, b2, b3⟩ := hr
  have hk := zu_k (M := M) (e := zDv x t (A 5 d0) (A 6 d0)) (h9 d0 hd0).1.2
  have e8 : va_up T d0 t 8 = T 8 := va_up_ne _ _ (by omega)
  refine ⟨?_, zLr_k hk h2 (by unfold zr; omega) (by unfold zr; omega), zLr_k hk h3 (by unfold zr; omega) (by unfold zr; omega), zAt_k hk h4 (by unfold zr; omega), zAt_k hk h5 (by unfold zr; omega), ⟨g6, zAt_k hk h6 (by unfold zr; omega), h6b⟩, fun j hj => ⟨zAt_k hk (h7 j hj).1 (by unfold zr; omega), zAt_k hk (h7 j hj).2.1 (by unfold zr; omega), (h7 j hj).2.2⟩, fun i hi => zAt_k hk (h8 i hi) (by unfold zr; omega), ?_, fun d j hd hj => ⟨zAt_k hk (h10 d j hd hj).1 (by have := (h9 d hd).2.2.2.2; unfold zr; omega), (h10 d j hd hj).2⟩, fun d j hd hj => ⟨zAt_k hk (h11 d j hd hj).1 (by have := (h9 d hd).2.2.2.2; unfold zr; omega), (h11 d j hd hj).2⟩, ⟨b1, b2, b3⟩⟩
  · rw [e8]; exact zAt_k hk h1 (by unfold zr; omega)
  · intro d hd
    by_cases e : d = d0
    · subst e
      rw [zS_e, va_up_self]
      exact ⟨⟨zu_s _ _ _, (h9 d hd).1.2⟩, hb, zLr_k hk (h9 d hd).2.2.1 (by unfold zr; omega) (by unfold zr; omega), zLr_k hk (h9 d hd).2.2.2.1 (by unfold zr; omega) (by unfold zr; omega), (h9 d hd).2.2.2.2⟩
    · rw [zS_n e, va_up_ne _ _ e]
      exact ⟨zAt_k hk (h9 d hd).1 (by unfold zr; omega), (h9 d hd).2.1, zLr_k hk (h9 d hd).2.2.1 (by unfold zr; omega) (by unfold zr; omega), zLr_k hk (h9 d hd).2.2.2.1 (by unfold zr; omega) (by unfold zr; omega), (h9 d hd).2.2.2.2⟩
def zN1 (N : Nat → Nat → Nat) (t i x : Nat) : Nat → Nat → Nat := fun t' i' => if t' = t ∧ i' = i then x else N t' i'
theorem zN_e (N : Nat → Nat → Nat) (t i x : Nat) : zN1 N t i x t i = x := if_pos ⟨rfl, rfl⟩
theorem zN_n {N : Nat → Nat → Nat} {t i x i' : Nat} (h : i' ≠ i) : zN1 N t i x t i' = N t i' := if_neg (fun q => h q.2)
theorem zN_t {N : Nat → Nat → Nat} {t t' i i' x : Nat} (h : t' ≠ t) : zN1 N t i x t' i' = N t' i' := if_neg (fun q => h q.1)
set_option maxHeartbeats 4000000 in
set_option maxRecDepth 100000 in
theorem rep_count {M : zVw} {rl : Nat → Nat} {dA : Nat → ClassId} {A : Nat → Nat → Nat} {S : Nat → Nat → Nat → Int32} {N : Nat → Nat → Nat} {T : Nat → Int64} {x : Nat} (hr : zRep M rl dA A S N T) (hx : x ≤ 100) : zRep (zu M (A 0 3) (zNo (A 0 4) x)) rl dA A S (zN1 N 2 0 x) T := by
  obtain ⟨h1, h2, h3, h4, h5, ⟨g6, h6, h6b⟩, h7, h8, h9, h10, h11, b1, b2, b3⟩ := hr
  have hk := zu_k (M := M) (e := zNo (A 0 4) x) h4.2
  have e0 : zN1 N 2 0 x 0 0 = N 0 0 := zN_t (by decide)
  have e1 : zN1 N 2 0 x 1 0 = N 1 0 := zN_t (by decide)
  have e3 : ∀ d, zN1 N 2 0 x 3 d = N 3 d := fun d => zN_t (by decide)
  have e4 : ∀ d, zN1 N 2 0 x 4 d = N 4 d := fun d => zN_t (by decide)
  have e5 : ∀ d, zN1 N 2 0 x 5 d = N 5 d := fun d => zN_t (by decide)
  unfold zRep
  simp only [e0, e1, e3, e4, e5, zN_e]
  exact ⟨zAt_k hk h1 (by unfold zr; omega), zLr_k hk h2 (by unfold zr; omega) (by unfold zr; omega), zLr_k hk h3 (by unfold zr; omega) (by unfold zr; omega), ⟨zu_s _ _ _, h4.2⟩, zAt_k hk h5 (by unfold zr; omega), ⟨g6, zAt_k hk h6 (by unfold zr; omega), h6b⟩, fun j hj => ⟨zAt_k hk (h7 j hj).1 (by unfold zr; omega), zAt_k hk (h7 j hj).2.1 (by unfold zr; omega), (h7 j hj).2.2⟩, fun i hi => zAt_k hk (h8 i hi) (by unfold zr; omega), fun d hd => ⟨zAt_k hk (h9 d hd).1 (by unfold zr; omega), (h9 d hd).2.1, zLr_k hk (h9 d hd).2.2.1 (by unfold zr; omega) (by unfold zr; omega), zLr_k hk (h9 d hd).2.2.2.1 (by unfold zr; omega) (by unfold zr; omega), (h9 d hd).2.2.2.2⟩, fun d j hd hj => ⟨zAt_k hk (h10 d j hd hj).1 (by have := (h9 d hd).2.2.2.2; unfold zr; omega), (h10 d j hd hj).2⟩, fun d j hd hj => ⟨zAt_k hk (h11 d j hd hj).1 (by have := (h9 d hd).2.2.2.2; unfold zr; omega), (h11 d j hd hj).2⟩, ⟨b1, b2, hx⟩⟩
set_option maxHeartbeats 4000000 in
set_option maxRecDepth 100000 in
theorem rep_codes {M : zVw} {rl : Nat → Nat} {dA : Nat → ClassId} {A : Nat → Nat → Nat} {S : Nat → Nat → Nat → Int32} {N : Nat → Nat → Nat} {T : Nat → Int64} {f : Nat → Int32} (hr : zRep M rl dA A S N T) : zRep (zu M (A 0 4) (zIa dA 100 f)) rl dA A (zS S 3 0 f) N T := by
  obtain ⟨h1, h2, h3, h4, h5, ⟨g6, h6, h6b⟩, h7, h8, h9, h10, h11, b1, b2, b3⟩ := hr
  have hk := zu_k (M := M) (e := zIa dA 100 f) h5.2
  exact ⟨zAt_k hk h1 (by unfold zr; omega), zLr_k hk h2 (by unfold zr; omega) (by unfold zr; omega), zLr_k hk h3 (by unfold zr; omega) (by unfold zr; omega), zAt_k hk h4 (by unfold zr; omega), ⟨zu_s _ _ _, h5.2⟩, ⟨g6, zAt_k hk h6 (by unfold zr; omega), h6b⟩, fun j hj => ⟨zAt_k hk (h7 j hj).1 (by unfold zr; omega), zAt_k hk (h7 j hj).2.1 (by unfold zr; omega), (h7 j hj).2.2⟩, fun i hi => zAt_k hk (h8 i hi) (by unfold zr; omega), fun d hd => ⟨zAt_k hk (h9 d hd).1 (by unfold zr; omega), (h9 d hd).2.1, zLr_k hk (h9 d hd).2.2.1 (by unfold zr; omega) (by unfold zr; omega), zLr_k hk (h9 d hd).2.2.2.1 (by unfold zr; omega) (by unfold zr; omega), (h9 d hd).2.2.2.2⟩, fun d j hd hj => ⟨zAt_k hk (h10 d j hd hj).1 (by have := (h9 d hd).2.2.2.2; unfold zr; omega), (h10 d j hd hj).2⟩, fun d j hd hj => ⟨zAt_k hk (h11 d j hd hj).1 (by have := (h9 d hd).2.2.2.2; unfold zr; omega), (h11 d j hd hj).2⟩, ⟨b1, b2, b3⟩⟩
