/-! How the relation is kept. -/
section KP
variable {S : Nat → Nat → Nat → Int32} {N : Nat → Nat → Nat} {T : Nat → Int64} {I I' : Nat → Nat → Int32} {L L' : Nat → Nat → Int64} {a a' n tb1 j d : Nat} {F F' : Nat → Int32} {sv dev kind : Int32}
theorem zRow_k (h : ∀ x, x ≠ a → I' 7 x = I 7 x ∧ I' 8 x = I 8 x ∧ I' 11 x = I 11 x ∧ I' 12 x = I 12 x ∧ I' 14 x = I 14 x ∧ I' 15 x = I 15 x ∧ L' 9 x = L 9 x ∧ L' 10 x = L 10 x ∧ L' 13 x = L 13 x) (hne : a' ≠ a) (hw : zRow I L a' F sv) : zRow I' L' a' F sv := by
  obtain ⟨q7, q8, q11, q12, q14, q15, q9, q10, q13⟩ := h a' hne
  unfold zRow
  rw [q7, q8, q11, q12, q14, q15, q9, q10, q13]
  exact hw
theorem rel_main (hq : zRel S N T I L) (hb : zBd N) (hj : j < N 0 0) (hm : zSm I L I' L' (488 + (j + 1)) (j + 1) 8 dev kind) (hw : zRow I' L' (488 + (j + 1)) F' (S 0 j 1)) (h10 : F' 10 = dev) (h9 : (kind = 4 → F' 9 = 0) ∧ (kind ≠ 4 → F' 9 = S 1 j 9)) : zRel (zS S 1 j F') N T I' L' := by
  obtain ⟨⟨e0, e1, e2, e17, e18, e19, e20, e21, e23, e24, e25, e26, e27, e30, e31, e32⟩, ⟨l0, l3, l22, l28⟩, t1, t2, _, t4⟩ := hm
  have b0 := hb.b0
  obtain ⟨t5, t6, t7⟩ := t4 rfl
  refine ⟨by rw [e0]; exact hq.ic, fun i hi => ?_, fun i h1 h2 => ?_, by rw [e0]; exact hq.cc, fun i hi => ?_, by rw [e0]; exact hq.nc, fun i hi => ?_, hq.cu, fun d hd => ?_, fun d hd ho => ?_, fun d i hd hi => ?_, by rw [l0]; exact hq.td⟩
  · obtain ⟨g1, g2, g3, g4, g5, g6, g7, g8⟩ := hq.it i hi
    by_cases e : i = j
    · subst e
      unfold zItR
      rw [e1, e2, l3, zS_e]
      refine ⟨g1, g2, g3, g4, by rw [t5, h10], ?_, hw, g8⟩
      by_cases hk : kind = 4
      · rw [h9.1 hk, (t6 hk).1, (t6 hk).2]; exact Or.inl ⟨rfl, rfl, rfl⟩
      · rw [h9.2 hk, (t7 hk).1, (t7 hk).2]; exact g6
    · unfold zItR
      obtain ⟨u4, u5, u6⟩ := t2 (i + 1) (by omega)
      rw [e1, e2, l3, zS_n e, u4, u5, u6]
      exact ⟨g1, g2, g3, g4, g5, g6, zRow_k t1 (by omega) g7, g8⟩
  · obtain ⟨g1, g2, g3, g4, g5, g6, g7, g8⟩ := hq.fr i h1 h2
    obtain ⟨u4, u5, u6⟩ := t2 i (by omega)
    obtain ⟨q7, q8, q11, q12, q14, q15, q9, q10, q13⟩ := t1 (488 + i) (by omega)
    unfold zNew
    rw [u5, u6, l3, q8, q9, q10, q14, q15]
    exact ⟨g1, g2, g3, g4, g5, g6, g7, g8⟩
  · rw [e30, e31, e32]; exact hq.cl i hi
  · rw [e17, e18, e19]; exact hq.co i hi
  · rw [e20, l22, e23]; exact hq.dv d hd
  · rw [e21]
    obtain ⟨g1, g2⟩ := hq.kn d hd ho
    have := hb.b3 d hd
    exact ⟨g1, fun i hi => zRow_k t1 (by omega) (g2 i hi)⟩
  · unfold zRwR
    rw [e24, e25, e26, e27, l28]
    exact hq.rw d i hd hi
theorem rel_dev (hq : zRel S N T I L) (hb : zBd N) (hd : d < 8) (hj : j < N 4 d) (hm : zSm I L I' L' (61 * d + (j + 1)) (j + 1) d dev kind) (hw : zRow I' L' (61 * d + (j + 1)) F' (S 0 j 1)) : zRel (zS S 6 (100 * d + j) F') N T I' L' := by
  obtain ⟨⟨e0, e1, e2, e17, e18, e19, e20, e21, e23, e24, e25, e26, e27, e30, e31, e32⟩, ⟨l0, l3, l22, l28⟩, t1, _, t4, _⟩ := hm
  have b0 := hb.b0
  have b4 := (hb.b3 d hd).2
  obtain ⟨u4, u5, u6⟩ := t4 (by omega)
  refine ⟨by rw [e0]; exact hq.ic, fun i hi => ?_, fun i h1 h2 => ?_, by rw [e0]; exact hq.cc, fun i hi => ?_, by rw [e0]; exact hq.nc, fun i hi => ?_, hq.cu, fun d' hd' => ?_, fun d' hd' ho => ?_, fun d' i hd' hi => ?_, by rw [l0]; exact hq.td⟩
  · obtain ⟨g1, g2, g3, g4, g5, g6, g7, g8⟩ := hq.it i hi
    unfold zItR
    rw [e1, e2, l3, u4, u5, u6]
    exact ⟨g1, g2, g3, g4, g5, g6, zRow_k t1 (by omega) g7, g8⟩
  · obtain ⟨g1, g2, g3, g4, g5, g6, g7, g8⟩ := hq.fr i h1 h2
    obtain ⟨q7, q8, q11, q12, q14, q15, q9, q10, q13⟩ := t1 (488 + i) (by omega)
    unfold zNew
    rw [u5, u6, l3, q8, q9, q10, q14, q15]
    exact ⟨g1, g2, g3, g4, g5, g6, g7, g8⟩
  · rw [e30, e31, e32]; exact hq.cl i hi
  · rw [e17, e18, e19]; exact hq.co i hi
  · rw [e20, l22, e23]; exact hq.dv d' hd'
  · rw [e21]
    obtain ⟨g1, g2⟩ := hq.kn d' hd' ho
    have := hb.b3 d' hd'
    refine ⟨g1, fun i hi => ?_⟩
    by_cases e : d' = d ∧ i = j
    · obtain ⟨rfl, rfl⟩ := e
      rw [zS_e]
      exact hw
    · have hi : i < N 4 d' := hi
      have ne : 100 * d' + i ≠ 100 * d + j := fun u => e (by omega)
      rw [zS_n ne]
      exact zRow_k t1 (fun u => e (by omega)) (g2 i hi)
  · unfold zRwR
    rw [e24, e25, e26, e27, l28]
    exact hq.rw d' i hd' hi
theorem rel_off (hq : zRel S N T I L) : zRel (zS S 4 d (fun _ => S 4 d 0)) N T I L := by
  have e : ∀ d', zS S 4 d (fun _ => S 4 d 0) 4 d' 0 = S 4 d' 0 := fun d' => by
    by_cases u : d' = d
    · subst u; rw [zS_e]
    · rw [zS_n u]
  refine ⟨hq.ic, hq.it, hq.fr, hq.cc, hq.cl, hq.nc, hq.co, hq.cu, fun d' hd => ?_, fun d' hd ho => ?_, hq.rw, hq.td⟩
  · rw [e]; exact hq.dv d' hd
  · rw [e] at ho; exact hq.kn d' hd ho
theorem rel_time {t : Int64} (hq : zRel S N T I L) (hd : d < 8) (ht : 0 ≤ t) : zRel S N (va_up T d t) I (zI L 22 (vp_updL (L 22) d t)) := by
  refine ⟨hq.ic, hq.it, hq.fr, hq.cc, hq.cl, hq.nc, hq.co, hq.cu, fun d' hd' => ?_, hq.kn, hq.rw, ?_⟩
  · obtain ⟨g1, g2, g3, g4, g5⟩ := hq.dv d' hd'
    show _ ∧ vp_updL (L 22) d t d' = _ ∧ _
    by_cases u : d' = d
    · subst u
      rw [updL_s, va_up_self]
      exact ⟨g1, rfl, ht, g4, g5⟩
    · rw [updL_n u, va_up_ne _ _ u]
      exact ⟨g1, g2, g3, g4, g5⟩
  · rw [va_up_ne _ _ (by omega)]; exact hq.td
theorem rel_row {R : Nat → Int32} {it : Int32} (hq : zRel S N T I L) (hb : zBd N) (hd : d < 8) (h3 : N 3 d < 30) (ho : S 4 d 0 ≠ 0) (hit : it = nI (j + 1)) (h1 : R 1 = nI d) (h5 : 0 ≤ R 5 ∧ R 5 ≤ 1000000) (hok : zOk (R 2) (R 4) (S 0 j 1)) :
    zRel (zS S 5 (100 * d + N 3 d) R) (zN1 (zN1 N 3 d (N 3 d + 1)) 5 (100 * d + N 3 d) j) T (zI (zI (zI (zI (zI I 24 (upd (I 24) (30 * d + N 3 d) it)) 25 (upd (I 25) (30 * d + N 3 d) (R 2))) 26 (upd (I 26) (30 * d + N 3 d) (R 4))) 27 (upd (I 27) (30 * d + N 3 d) (R 3))) 23 (upd (I 23) d (nI (N 3 d + 1)))) (zI L 28 (vp_updL (L 28) (30 * d + N 3 d) (R 5).toInt64)) := by
  refine ⟨hq.ic, hq.it, hq.fr, hq.cc, hq.cl, hq.nc, hq.co, hq.cu, fun d' hd' => ?_, fun d' hd' ho' => ?_, fun d' i hd' hi => ?_, hq.td⟩
  · obtain ⟨g1, g2, g3, g4, g5⟩ := hq.dv d' hd'
    show _ ∧ _ ∧ _ ∧ upd (I 23) d (nI (N 3 d + 1)) d' = _ ∧ _
    rw [zN_t (by decide)]
    by_cases u : d' = d
    · subst u
      rw [upd_s, zN_e]
      exact ⟨g1, g2, g3, rfl, fun w => absurd w ho⟩
    · rw [upd_n u, zN_n u]
      exact ⟨g1, g2, g3, g4, g5⟩
  · exact hq.kn d' hd' ho'
  · rw [zN_t (by decide)] at hi
    have b3 := (hb.b3 d' hd').1
    show upd (I 24) (30 * d + N 3 d) it (30 * d' + i) = nI (zN1 (zN1 N 3 d (N 3 d + 1)) 5 (100 * d + N 3 d) j 5 (100 * d' + i) + 1) ∧ upd (I 25) (30 * d + N 3 d) (R 2) (30 * d' + i) = zS S 5 (100 * d + N 3 d) R 5 (100 * d' + i) 2 ∧ upd (I 26) (30 * d + N 3 d) (R 4) (30 * d' + i) = zS S 5 (100 * d + N 3 d) R 5 (100 * d' + i) 4 ∧ upd (I 27) (30 * d + N 3 d) (R 3) (30 * d' + i) = zS S 5 (100 * d + N 3 d) R 5 (100 * d' + i) 3 ∧ vp_updL (L 28) (30 * d + N 3 d) (R 5).toInt64 (30 * d' + i) = (zS S 5 (100 * d + N 3 d) R 5 (100 * d' + i) 5).toInt64 ∧ zS S 5 (100 * d + N 3 d) R 5 (100 * d' + i) 1 = nI d' ∧ (0 ≤ zS S 5 (100 * d + N 3 d) R 5 (100 * d' + i) 5 ∧ zS S 5 (100 * d + N 3 d) R 5 (100 * d' + i) 5 ≤ 1000000) ∧ zOk (zS S 5 (100 * d + N 3 d) R 5 (100 * d' + i) 2) (zS S 5 (100 * d + N 3 d) R 5 (100 * d' + i) 4) (S 0 (zN1 (zN1 N 3 d (N 3 d + 1)) 5 (100 * d + N 3 d) j 5 (100 * d' + i)) 1)
    by_cases u : d' = d ∧ i = N 3 d
    · obtain ⟨rfl, rfl⟩ := u
      rw [upd_s, upd_s, upd_s, upd_s, updL_s, zS_e, zN_e]
      exact ⟨hit, rfl, rfl, rfl, rfl, h1, h5, hok⟩
    · have hi2 : i < N 3 d' := by
        by_cases w : d' = d
        · subst w
          rw [zN_e] at hi
          omega
        · rw [zN_n w] at hi; exact hi
      have n1 : 30 * d' + i ≠ 30 * d + N 3 d := by omega
      have n2 : 100 * d' + i ≠ 100 * d + N 3 d := by omega
      rw [upd_n n1, upd_n n1, upd_n n1, upd_n n1, updL_n n1, zS_n n2, zN_n n2, zN_t (by decide)]
      exact hq.rw d' i hd' hi2
theorem rel_clash {c0 c1 c2 : Int32} (hq : zRel S N T I L) : zRel (zS S 2 (N 1 0) (fun k => if k = 0 then c0 else if k = 1 then c1 else c2)) (zN1 N 1 0 (N 1 0 + 1)) T (zI (zI (zI (zI I 30 (upd (I 30) (N 1 0) c0)) 31 (upd (I 31) (N 1 0) c1)) 32 (upd (I 32) (N 1 0) c2)) 0 (upd (I 0) 29 (nI (N 1 0 + 1)))) L := by
  refine ⟨hq.ic, hq.it, hq.fr, ?_, fun i hi => ?_, hq.nc, hq.co, hq.cu, hq.dv, hq.kn, hq.rw, hq.td⟩
  · show upd (I 0) 29 (nI (N 1 0 + 1)) 29 = _
    rw [upd_s, zN_e]
  · rw [zN_e] at hi
    show upd (I 30) (N 1 0) c0 i = _ ∧ upd (I 31) (N 1 0) c1 i = _ ∧ upd (I 32) (N 1 0) c2 i = _
    by_cases u : i = N 1 0
    · subst u
      rw [upd_s, upd_s, upd_s, zS_e]
      exact ⟨rfl, rfl, rfl⟩
    · rw [upd_n u, upd_n u, upd_n u, zS_n u]
      exact hq.cl i (by omega)
theorem rel_online (hq : zRel S N T I L) : zRel (zS S 4 d (fun _ => 0)) (zN1 N 3 d 0) T (zI (zI I 23 (upd (I 23) d 0)) 20 (upd (I 20) d 0)) L := by
  refine ⟨hq.ic, hq.it, hq.fr, hq.cc, hq.cl, hq.nc, hq.co, hq.cu, fun d' hd' => ?_, fun d' hd' ho => ?_, fun d' i hd' hi => ?_, hq.td⟩
  · obtain ⟨g1, g2, g3, g4, g5⟩ := hq.dv d' hd'
    show upd (I 20) d 0 d' = _ ∧ _ ∧ _ ∧ upd (I 23) d 0 d' = _ ∧ _
    by_cases u : d' = d
    · subst u
      rw [upd_s, upd_s, zS_e, zN_e]
      exact ⟨rfl, g2, g3, rfl, fun _ => rfl⟩
    · rw [upd_n u, upd_n u, zS_n u, zN_n u]
      exact ⟨g1, g2, g3, g4, g5⟩
  · by_cases u : d' = d
    · subst u
      rw [zS_e] at ho
      exact absurd rfl ho
    · rw [zS_n u] at ho
      exact hq.kn d' hd' ho
  · by_cases u : d' = d
    · subst u
      rw [zN_e] at hi
      exact absurd hi (by omega)
    · rw [zN_n u] at hi
      exact hq.rw d' i hd' hi
end KP
