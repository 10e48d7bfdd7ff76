/-! The reference: item, consent. -/
theorem due_5 : ∀ n, n < 61 → (zdue (nI n) 5).toInt = 250 * (1 + ((n % 7 : Nat) : Int)) ∧ 0 ≤ zdue (nI n) 5 ∧ zdue (nI n) 5 ≤ 1750 := by decide +kernel
section KI
variable {S : Nat → Nat → Nat → Int32} {N : Nat → Nat → Nat} {T : Nat → Int64} {I : Nat → Nat → Int32} {L : Nat → Nat → Int64}
theorem rel_item {s0 r0 : Int32} (hq : zRel S N T I L) (hb : zBd N) (hn : N 0 0 < 60) (hs : (0 ≤ s0 ∧ s0 ≤ 5) ∧ 0 ≤ r0 ∧ r0 < 100) : zRel (zS (zS S 0 (N 0 0) (zIt s0 r0 (zdue (nI (N 0 0 + 1)) s0))) 1 (N 0 0) f0) (zN1 N 0 0 (N 0 0 + 1)) T (zI (zI (zI (zI (zI (zI (zI I 0 (upd (I 0) 0 (nI (N 0 0 + 1)))) 1 (upd (I 1) (N 0 0 + 1) s0)) 2 (upd (I 2) (N 0 0 + 1) r0)) 4 (upd (I 4) (N 0 0 + 1) (-1))) 7 (upd (I 7) (488 + (N 0 0 + 1)) 0)) 11 (upd (I 11) (488 + (N 0 0 + 1)) (-1))) 12 (upd (I 12) (488 + (N 0 0 + 1)) (-1))) (zI L 0 (L 0)) := by
  obtain ⟨n, en⟩ : ∃ n, n = N 0 0 := ⟨_, rfl⟩
  rw [← en] at hn ⊢
  obtain ⟨S', eS⟩ : ∃ S', S' = zS (zS S 0 n (zIt s0 r0 (zdue (nI (n + 1)) s0))) 1 n f0 := ⟨_, rfl⟩
  have s0n : S' 0 n = zIt s0 r0 (zdue (nI (n + 1)) s0) := by rw [eS, zS_t (by decide), zS_e]
  have s1n : S' 1 n = f0 := by rw [eS, zS_e]
  have s0o : ∀ i, i ≠ n → S' 0 i = S 0 i := fun i h => by rw [eS, zS_t (by decide), zS_n h]
  have s1o : ∀ i, i ≠ n → S' 1 i = S 1 i := fun i h => by rw [eS, zS_n h, zS_t (by decide)]
  have so : ∀ t i, t ≠ 0 → t ≠ 1 → S' t i = S t i := fun t i h0 h1 => by rw [eS, zS_t h1, zS_t h0]
  rw [← eS]
  have tk : ∀ x, x ≠ 488 + (n + 1) → upd (I 7) (488 + (n + 1)) 0 x = I 7 x ∧ I 8 x = I 8 x ∧ upd (I 11) (488 + (n + 1)) (-1) x = I 11 x ∧ upd (I 12) (488 + (n + 1)) (-1) x = I 12 x ∧ I 14 x = I 14 x ∧ I 15 x = I 15 x ∧ L 9 x = L 9 x ∧ L 10 x = L 10 x ∧ L 13 x = L 13 x := fun x h => ⟨upd_n h, rfl, upd_n h, upd_n h, rfl, rfl, rfl, rfl, rfl⟩
  refine ⟨?_, fun i hi => ?_, fun i h1 h2 => ?_, hq.cc, fun i hi => ?_, hq.nc, fun i hi => ?_, fun i j hi hj => ?_, fun d hd => ?_, fun d hd ho => ?_, fun d i hd hi => ?_, hq.td⟩
  · show upd (I 0) 0 (nI (n + 1)) 0 = _
    rw [upd_s, zN_e]
  · rw [zN_e] at hi
    by_cases e : i = n
    · subst e
      obtain ⟨g1, g2, g3, g4, g5, g6, g7, g8⟩ := hq.fr (i + 1) (by omega) (by omega)
      unfold zItR
      rw [s0n, s1n]
      refine ⟨upd_s _ _ _, upd_s _ _ _, hs.1, hs.2, upd_s _ _ _, Or.inl ⟨rfl, g1, g2⟩, ⟨upd_s _ _ _, g7, g8, g4, g5, g6, fun u => absurd u.1 (by decide), by decide⟩, ?_⟩
      show zPay s0 (zdue (nI (i + 1)) s0) (L 3 (i + 1)) (i + 1)
      rw [g3]
      by_cases h5 : s0 = 5
      · subst h5
        obtain ⟨u1, u2, u3⟩ := due_5 (i + 1) (by omega)
        refine Or.inl ⟨rfl, u2, u3, ?_⟩
        rw [u1, show (0 : Int64).toInt = 0 from rfl]; omega
      · refine Or.inr ⟨h5, ?_⟩
        unfold zdue; rw [if_neg h5]
    · obtain ⟨g1, g2, g3, g4, g5, g6, g7, g8⟩ := hq.it i (by omega)
      unfold zItR
      rw [s0o i e, s1o i e]
      refine ⟨?_, ?_, g3, g4, ?_, g6, zRow_k tk (by omega) g7, g8⟩
      · show upd (I 1) (n + 1) s0 (i + 1) = _
        rw [upd_n (by omega)]; exact g1
      · show upd (I 2) (n + 1) r0 (i + 1) = _
        rw [upd_n (by omega)]; exact g2
      · show upd (I 4) (n + 1) (-1) (i + 1) = _
        rw [upd_n (by omega)]; exact g5
  · rw [zN_e] at h1
    exact hq.fr i (by omega) h2
  · rw [so 2 i (by decide) (by decide)]; exact hq.cl i hi
  · rw [so 3 0 (by decide) (by decide)]; exact hq.co i hi
  · rw [so 3 0 (by decide) (by decide)]; exact hq.cu i j hi hj
  · rw [so 4 d (by decide) (by decide)]; exact hq.dv d hd
  · rw [so 4 d (by decide) (by decide)] at ho
    obtain ⟨g1, g2⟩ := hq.kn d hd ho
    refine ⟨g1, fun i hi => ?_⟩
    have hi : i < N 4 d := hi
    have b3 := (hb.b3 d hd).2
    rw [so 6 _ (by decide) (by decide), s0o i (by omega)]
    exact zRow_k tk (by omega) (g2 i hi)
  · have hi : i < N 3 d := hi
    have b5 := hb.b5 d i hd hi
    have := hq.rw d i hd hi
    unfold zRwR at this ⊢
    rw [so 5 _ (by decide) (by decide), zN_t (by decide), s0o _ (by omega)]
    exact this
theorem rel_cadd {x p k o : Int32} (hq : zRel S N T I L) (hx : zCo x p k o) (hn : ¬ zIn (S 3 0) (N 2 0) x) : zRel (zS S 3 0 (upd (S 3 0) (N 2 0) x)) (zN1 N 2 0 (N 2 0 + 1)) T (zI (zI (zI (zI I 17 (upd (I 17) (N 2 0) p)) 18 (upd (I 18) (N 2 0) k)) 19 (upd (I 19) (N 2 0) o)) 0 (upd (I 0) 16 (nI (N 2 0 + 1)))) (zI L 0 (L 0)) := by
  refine ⟨hq.ic, hq.it, hq.fr, hq.cc, hq.cl, ?_, fun i hi => ?_, fun i j hi hj => ?_, hq.dv, hq.kn, hq.rw, hq.td⟩
  · show upd (I 0) 16 (nI (N 2 0 + 1)) 16 = _
    rw [upd_s, zN_e]
  · rw [zN_e] at hi
    rw [zS_e]
    show zCo _ (upd (I 17) (N 2 0) p i) (upd (I 18) (N 2 0) k i) (upd (I 19) (N 2 0) o i)
    by_cases e : i = N 2 0
    · subst e
      rw [upd_s, upd_s, upd_s, upd_s]; exact hx
    · rw [upd_n e, upd_n e, upd_n e, upd_n e]; exact hq.co i (by omega)
  · rw [zN_e] at hi hj
    rw [zS_e]
    by_cases e : i = N 2 0
    · by_cases e2 : j = N 2 0
      · intro _; omega
      · subst e
        rw [upd_s, upd_n e2]
        intro u
        exact absurd ⟨j, by omega, u.symm⟩ hn
    · by_cases e2 : j = N 2 0
      · subst e2
        rw [upd_s, upd_n e]
        intro u
        exact absurd ⟨i, by omega, u⟩ hn
      · rw [upd_n e, upd_n e2]
        exact hq.cu i j (by omega) (by omega)
theorem rel_cdel {j : Nat} (hq : zRel S N T I L) (hj : j < N 2 0) : zRel (zS S 3 0 (upd (S 3 0) j (S 3 0 (N 2 0 - 1)))) (zN1 N 2 0 (N 2 0 - 1)) T (zI (zI (zI (zI I 0 (upd (I 0) 16 (nI (N 2 0 - 1)))) 17 (upd (I 17) j (I 17 (N 2 0 - 1)))) 18 (upd (I 18) j (I 18 (N 2 0 - 1)))) 19 (upd (I 19) j (I 19 (N 2 0 - 1)))) (zI L 0 (L 0)) := by
  refine ⟨hq.ic, hq.it, hq.fr, hq.cc, hq.cl, ?_, fun i hi => ?_, fun i i' hi hi' => ?_, hq.dv, hq.kn, hq.rw, hq.td⟩
  · show upd (I 0) 16 (nI (N 2 0 - 1)) 16 = _
    rw [upd_s, zN_e]
  · rw [zN_e] at hi
    rw [zS_e]
    show zCo _ (upd (I 17) j (I 17 (N 2 0 - 1)) i) (upd (I 18) j (I 18 (N 2 0 - 1)) i) (upd (I 19) j (I 19 (N 2 0 - 1)) i)
    by_cases e : i = j
    · subst e
      rw [upd_s, upd_s, upd_s, upd_s]; exact hq.co _ (by omega)
    · rw [upd_n e, upd_n e, upd_n e, upd_n e]; exact hq.co i (by omega)
  · rw [zN_e] at hi hi'
    rw [zS_e]
    by_cases e : i = j
    · by_cases e2 : i' = j
      · intro _; omega
      · subst e
        rw [upd_s, upd_n e2]
        intro u
        have := hq.cu (N 2 0 - 1) i' (by omega) (by omega) u
        omega
    · by_cases e2 : i' = j
      · subst e2
        rw [upd_s, upd_n e]
        intro u
        have := hq.cu i (N 2 0 - 1) (by omega) (by omega) u
        omega
      · rw [upd_n e, upd_n e2]
        exact hq.cu i i' (by omega) (by omega)
end KI
set_option maxHeartbeats 4000000 in
set_option maxRecDepth 100000 in
theorem c_M_item (l : Launch) (D : va_G) (dA : Nat → ClassId) (z : Nat) (M : zVw) (rl : Nat → Nat) (B : Nat → Nat) (I : Nat → Nat → Int32) (L : Nat → Nat → Int64) (S S' : Nat → Nat → Nat → Int32) (N N' : Nat → Nat → Nat) (T : Nat → Int64) (s0 r0 r : Int32) (hr : zRf M rl dA B I L) (hq : zRel S N T I L) (hb : zBd N) (hA : zItem S N s0 r0 r S' N') : zMet l y_M_item b_M_item 4 (some .int) 1 25 0 0 D dA z [.ref (B 0), .int s0, .int r0] M (fun v M' => v = some (.int r) ∧ ∃ I' L', zRg M M' rl dA B I' L' ∧ zRel S' N' T I' L') := by
  have h0 := rf_0 hr
  have h1 := rf_1 hr
  have h2 := rf_2 hr
  have h4 := rf_4 hr
  have h7 := rf_7 hr
  have h11 := rf_11 hr
  have h12 := rf_12 hr
  have n_0_1 := rf_ne hr (i := 0) (j := 1) (by decide) (by decide) (by decide)
  have n_0_2 := rf_ne hr (i := 0) (j := 2) (by decide) (by decide) (by decide)
  have n_0_4 := rf_ne hr (i := 0) (j := 4) (by decide) (by decide) (by decide)
  have n_0_7 := rf_ne hr (i := 0) (j := 7) (by decide) (by decide) (by decide)
  have n_0_11 := rf_ne hr (i := 0) (j := 11) (by decide) (by decide) (by decide)
  have n_0_12 := rf_ne hr (i := 0) (j := 12) (by decide) (by decide) (by decide)
  have n_1_0 := rf_ne hr (i := 1) (j := 0) (by decide) (by decide) (by decide)
  have n_1_2 := rf_ne hr (i := 1) (j := 2) (by decide) (by decide) (by decide)
  have n_1_4 := rf_ne hr (i := 1) (j := 4) (by decide) (by decide) (by decide)
  have n_1_7 := rf_ne hr (i := 1) (j := 7) (by decide) (by decide) (by decide)
  have n_1_11 := rf_ne hr (i := 1) (j := 11) (by decide) (by decide) (by decide)
  have n_1_12 := rf_ne hr (i := 1) (j := 12) (by decide) (by decide) (by decide)
  have n_2_0 := rf_ne hr (i := 2) (j := 0) (by decide) (by decide) (by decide)
  have n_2_1 := rf_ne hr (i := 2) (j := 1) (by decide) (by decide) (by decide)
  have n_2_4 := rf_ne hr (i := 2) (j := 4) (by decide) (by decide) (by decide)
  have n_2_7 := rf_ne hr (i := 2) (j := 7) (by decide) (by decide) (by decide)
  have n_2_11 := rf_ne hr (i := 2) (j := 11) (by decide) (by decide) (by decide)
  have n_2_12 := rf_ne hr (i := 2) (j := 12) (by decide) (by decide) (by decide)
  have n_4_0 := rf_ne hr (i := 4) (j := 0) (by decide) (by decide) (by decide)
  have n_4_1 := rf_ne hr (i := 4) (j := 1) (by decide) (by decide) (by decide)
  have n_4_2 := rf_ne hr (i := 4) (j := 2) (by decide) (by decide) (by decide)
  have n_4_7 := rf_ne hr (i := 4) (j := 7) (by decide) (by decide) (by decide)
  have n_4_11 := rf_ne hr (i := 4) (j := 11) (by decide) (by decide) (by decide)
  have n_4_12 := rf_ne hr (i := 4) (j := 12) (by decide) (by decide) (by decide)
  have n_7_0 := rf_ne hr (i := 7) (j := 0) (by decide) (by decide) (by decide)
  have n_7_1 := rf_ne hr (i := 7) (j := 1) (by decide) (by decide) (by decide)
  have n_7_2 := rf_ne hr (i := 7) (j := 2) (by decide) (by decide) (by decide)
  have n_7_4 := rf_ne hr (i := 7) (j := 4) (by decide) (by decide) (by decide)
  have n_7_11 := rf_ne hr (i := 7) (j := 11) (by decide) (by decide) (by decide)
  have n_7_12 := rf_ne hr (i := 7) (j := 12) (by decide) (by decide) (by decide)
  have n_11_0 := rf_ne hr (i := 11) (j := 0) (by decide) (by decide) (by decide)
  have n_11_1 := rf_ne hr (i := 11) (j := 1) (by decide) (by decide) (by decide)
  have n_11_2 := rf_ne hr (i := 11) (j := 2) (by decide) (by decide) (by decide)
  have n_11_4 := rf_ne hr (i := 11) (j := 4) (by decide) (by decide) (by decide)
  have n_11_7 := rf_ne hr (i := 11) (j := 7) (by decide) (by decide) (by decide)
  have n_11_12 := rf_ne hr (i := 11) (j := 12) (by decide) (by decide) (by decide)
  have n_12_0 := rf_ne hr (i := 12) (j := 0) (by decide) (by decide) (by decide)
  have n_12_1 := rf_ne hr (i := 12) (j := 1) (by decide) (by decide) (by decide)
  have n_12_2 := rf_ne hr (i := 12) (j := 2) (by decide) (by decide) (by decide)
  have n_12_4 := rf_ne hr (i := 12) (j := 4) (by decide) (by decide) (by decide)
  have n_12_7 := rf_ne hr (i := 12) (j := 7) (by decide) (by decide) (by decide)
  have n_12_11 := rf_ne hr (i := 12) (j := 11) (by decide) (by decide) (by decide)
  have b0 := hb.b0
  have hic := hq.ic
  refine z_of 1 false (by decide) (fun h => by first | rfl | cases h) (Nat.le_of_ble_eq_true rfl) trivial ?_
  intro p e s m args below meth c C hR
  refine zgo (cut := fun _ => false) 60 C lk_M hR ?_
  simp only [zs_iconst, zs_bipush, zs_sipush, zs_lconst, zs_ldc2, zs_iload_n, zs_aload_n, zs_istore_n, zs_iadd, zs_i2l, zs_dup0, zs_dup1, zs_dup2, zs_if_eq, zs_if_ne, zs_icmp_ne, zs_get, zs_put, zs_iastore, zs_ireturn, zx_iv, zx_is, zx_it, zx_nw, zx_na, zx_an, zx_cc, zx_gs, zx_as, zx_ae, zx_ac, zx_at, zr_seg, zr_t, zr_f, zr_tp, zr_fp, zr_lg, zr_lr, zr_lr0, zr_wi, zr_wr, zr_wn, zr_wl, zr_vo, zr_so, zr_sI, zr_sL, zr_sA, zr_sN, zr_in, zr_rd, zr_wr2, zr_kf, zr_k0, zr_k1, zr_k2, zr_k3, zr_k3n, zr_k10, zr_k11, zr_k12, zr_k13, zr_k13n, zr_ai, zr_af, zr_aw, zr_aL, zr_Lf, zr_Lw, zr_l2, zr_l20, zr_al, zr_an, zr_aq, zr_ag, zr_rfs, zr_rfn, zr_r1, zr_r2, zr_w0, zr_w1, zr_tl, zr_40, zr_41, zr_42, zr_43, d_M_item_0, d_M_item_1, d_M_item_2, cl_0, d_M_item_3, ll_M_106, d_M_item_6, d_M_item_9, zt_9_15, zo_9_15, d_M_item_12, d_M_item_13, d_M_item_14, d_M_item_15, ll_M_112, d_M_item_18, d_M_item_21, zt_21_6, zo_21_6, d_M_item_24, cb_m12, d_M_item_26, d_M_item_27, d_M_item_28, fl_M_102, d_M_item_31, cb_60, d_M_item_33, zt_33_6, zo_33_6, d_M_item_36, cb_m14, d_M_item_38, d_M_item_39, d_M_item_40, d_M_item_41, d_M_item_44, ci_1, d_M_item_45, d_M_item_46, d_M_item_49, d_M_item_50, fl_M_7, d_M_item_53, d_M_item_54, d_M_item_57, d_M_item_58, d_M_item_59, d_M_item_60, fl_M_13, d_M_item_63, d_M_item_64, d_M_item_67, d_M_item_68, d_M_item_69, d_M_item_70, fl_M_20, d_M_item_73, d_M_item_74, d_M_item_77, ci_m1, d_M_item_78, d_M_item_79, cs_488, d_M_item_82, d_M_item_83, d_M_item_86, d_M_item_87, d_M_item_88, d_M_item_89, fl_M_30, d_M_item_92, d_M_item_93, ci_0, d_M_item_94, d_M_item_95, d_M_item_96, fl_M_42, d_M_item_99, d_M_item_100, d_M_item_101, d_M_item_102, d_M_item_103, fl_M_45, d_M_item_106, d_M_item_107, d_M_item_108, d_M_item_109, d_M_item_110, d_M_item_113, za_0, za_i, za_r, za_n, za_l, zu_s, zu_u, Nat.reduceAdd, Nat.reduceLT, Nat.reduceBEq, Nat.zero_add, Bool.false_or, Bool.or_false, Bool.true_or, Bool.or_true, Bool.false_and, Bool.and_false, Bool.true_and, Bool.and_true, true_and, and_true, true_or, or_true, eq_self, Nat.le_refl, List.getElem?_cons_succ, List.getElem?_cons_zero, List.set_cons_succ, List.set_cons_zero, zk_0, zk_1, zk_2, zk_3, zk_4, zq_1, zq_2, Option.isSome_some, Option.getD_some, Option.toList_some, Option.toList_none, List.cons_append, List.nil_append, true_implies, false_implies, not_true_eq_false, not_false_eq_true, zn_10, Int32.reduceLT, Int32.reduceLE, implies_true, and_self]
  refine zJ_callS (As := [.long s0.toInt64, .long 0, .long 5]) (rest := []) C d_M_item_6 (c_M_isIn l D dA z M s0.toInt64 0 5) k_M_108 s_M_isIn ⟨(Nat.le_of_ble_eq_true rfl), (Nat.le_of_ble_eq_true rfl)⟩ ⟨(Nat.le_of_ble_eq_true rfl), (Nat.le_of_ble_eq_true rfl)⟩ rfl (Nat.le_of_ble_eq_true rfl) ?_
  rintro v M9 ⟨e0, rfl⟩; have e0 := e0.symm; subst e0
  refine zgo (cut := fun _ => false) 60 C lk_M hR ?_
  simp only [zs_iconst, zs_bipush, zs_sipush, zs_lconst, zs_ldc2, zs_iload_n, zs_aload_n, zs_istore_n, zs_iadd, zs_i2l, zs_dup0, zs_dup1, zs_dup2, zs_if_eq, zs_if_ne, zs_icmp_ne, zs_get, zs_put, zs_iastore, zs_ireturn, zx_iv, zx_is, zx_it, zx_nw, zx_na, zx_an, zx_cc, zx_gs, zx_as, zx_ae, zx_ac, zx_at, zr_seg, zr_t, zr_f, zr_tp, zr_fp, zr_lg, zr_lr, zr_lr0, zr_wi, zr_wr, zr_wn, zr_wl, zr_vo, zr_so, zr_sI, zr_sL, zr_sA, zr_sN, zr_in, zr_rd, zr_wr2, zr_kf, zr_k0, zr_k1, zr_k2, zr_k3, zr_k3n, zr_k10, zr_k11, zr_k12, zr_k13, zr_k13n, zr_ai, zr_af, zr_aw, zr_aL, zr_Lf, zr_Lw, zr_l2, zr_l20, zr_al, zr_an, zr_aq, zr_ag, zr_rfs, zr_rfn, zr_r1, zr_r2, zr_w0, zr_w1, zr_tl, zr_40, zr_41, zr_42, zr_43, d_M_item_0, d_M_item_1, d_M_item_2, cl_0, d_M_item_3, ll_M_106, d_M_item_6, d_M_item_9, zt_9_15, zo_9_15, d_M_item_12, d_M_item_13, d_M_item_14, d_M_item_15, ll_M_112, d_M_item_18, d_M_item_21, zt_21_6, zo_21_6, d_M_item_24, cb_m12, d_M_item_26, d_M_item_27, d_M_item_28, fl_M_102, d_M_item_31, cb_60, d_M_item_33, zt_33_6, zo_33_6, d_M_item_36, cb_m14, d_M_item_38, d_M_item_39, d_M_item_40, d_M_item_41, d_M_item_44, ci_1, d_M_item_45, d_M_item_46, d_M_item_49, d_M_item_50, fl_M_7, d_M_item_53, d_M_item_54, d_M_item_57, d_M_item_58, d_M_item_59, d_M_item_60, fl_M_13, d_M_item_63, d_M_item_64, d_M_item_67, d_M_item_68, d_M_item_69, d_M_item_70, fl_M_20, d_M_item_73, d_M_item_74, d_M_item_77, ci_m1, d_M_item_78, d_M_item_79, cs_488, d_M_item_82, d_M_item_83, d_M_item_86, d_M_item_87, d_M_item_88, d_M_item_89, fl_M_30, d_M_item_92, d_M_item_93, ci_0, d_M_item_94, d_M_item_95, d_M_item_96, fl_M_42, d_M_item_99, d_M_item_100, d_M_item_101, d_M_item_102, d_M_item_103, fl_M_45, d_M_item_106, d_M_item_107, d_M_item_108, d_M_item_109, d_M_item_110, d_M_item_113, za_0, za_i, za_r, za_n, za_l, zu_s, zu_u, Nat.reduceAdd, Nat.reduceLT, Nat.reduceBEq, Nat.zero_add, Bool.false_or, Bool.or_false, Bool.true_or, Bool.or_true, Bool.false_and, Bool.and_false, Bool.true_and, Bool.and_true, true_and, and_true, true_or, or_true, eq_self, Nat.le_refl, List.getElem?_cons_succ, List.getElem?_cons_zero, List.set_cons_succ, List.set_cons_zero, zk_0, zk_1, zk_2, zk_3, zk_4, zq_1, zq_2, Option.isSome_some, Option.getD_some, Option.toList_some, Option.toList_none, List.cons_append, List.nil_append, zb_e0, true_implies, false_implies, not_true_eq_false, not_false_eq_true, zn_10, Int32.reduceLT, Int32.reduceLE, implies_true, and_self]
  have out : ¬ ((0 ≤ s0 ∧ s0 ≤ 5) ∧ 0 ≤ r0 ∧ r0 < 100) → (some (Value.int (-12)) = some (Value.int r) ∧ ∃ I' L', zRg M M rl dA B I' L' ∧ zRel S' N' T I' L') := fun u => by
    rcases hA with ⟨_, rfl, rfl, rfl⟩ | ⟨w, _⟩
    · exact ⟨rfl, I, L, rg_0 hr, hq⟩
    · exact absurd w u
  refine ⟨fun g => out (fun u => g ?_), fun g => ?_⟩
  · have u := u.1; clear hR C hA out g; (simp only [Int32.lt_iff_toInt_lt, Int32.le_iff_toInt_le, ← Int32.toInt_inj, Int32.reduceToInt, Int64.lt_iff_toInt_lt, Int64.le_iff_toInt_le, ← Int64.toInt_inj, Int64.reduceToInt, Int32.toInt_toInt64] at *; omega)
  refine zJ_callS (As := [.long r0.toInt64, .long 0, .long 99]) (rest := []) C d_M_item_18 (c_M_isIn l D dA z M r0.toInt64 0 99) k_M_108 s_M_isIn ⟨(Nat.le_of_ble_eq_true rfl), (Nat.le_of_ble_eq_true rfl)⟩ ⟨(Nat.le_of_ble_eq_true rfl), (Nat.le_of_ble_eq_true rfl)⟩ rfl (Nat.le_of_ble_eq_true rfl) ?_
  rintro v M9 ⟨e0, rfl⟩; have e0 := e0.symm; subst e0
  by_cases g2 : 0 ≤ r0.toInt64 ∧ r0.toInt64 ≤ 99
  · rw [zb_t g2]
    have hs : (0 ≤ s0 ∧ s0 ≤ 5) ∧ 0 ≤ r0 ∧ r0 < 100 := by
      have g3 : 0 ≤ s0.toInt64 ∧ s0.toInt64 ≤ 5 := Classical.byContradiction g
      clear hR C hA out g; (simp only [Int32.lt_iff_toInt_lt, Int32.le_iff_toInt_le, ← Int32.toInt_inj, Int32.reduceToInt, Int64.lt_iff_toInt_lt, Int64.le_iff_toInt_le, ← Int64.toInt_inj, Int64.reduceToInt, Int32.toInt_toInt64] at *; omega)
    rcases hA with ⟨w, _⟩ | ⟨_, hA⟩
    · exact absurd hs w
    rcases hA with ⟨h60, rfl, rfl, rfl⟩ | ⟨h60, rfl, rfl, rfl⟩
    · refine zgo (cut := fun _ => false) 60 C lk_M hR ?_
      simp only [zs_iconst, zs_bipush, zs_sipush, zs_lconst, zs_ldc2, zs_iload_n, zs_aload_n, zs_istore_n, zs_iadd, zs_i2l, zs_dup0, zs_dup1, zs_dup2, zs_if_eq, zs_if_ne, zs_icmp_ne, zs_get, zs_put, zs_iastore, zs_ireturn, zx_iv, zx_is, zx_it, zx_nw, zx_na, zx_an, zx_cc, zx_gs, zx_as, zx_ae, zx_ac, zx_at, zr_seg, zr_t, zr_f, zr_tp, zr_fp, zr_lg, zr_lr, zr_lr0, zr_wi, zr_wr, zr_wn, zr_wl, zr_vo, zr_so, zr_sI, zr_sL, zr_sA, zr_sN, zr_in, zr_rd, zr_wr2, zr_kf, zr_k0, zr_k1, zr_k2, zr_k3, zr_k3n, zr_k10, zr_k11, zr_k12, zr_k13, zr_k13n, zr_ai, zr_af, zr_aw, zr_aL, zr_Lf, zr_Lw, zr_l2, zr_l20, zr_al, zr_an, zr_aq, zr_ag, zr_rfs, zr_rfn, zr_r1, zr_r2, zr_w0, zr_w1, zr_tl, zr_40, zr_41, zr_42, zr_43, d_M_item_0, d_M_item_1, d_M_item_2, cl_0, d_M_item_3, ll_M_106, d_M_item_6, d_M_item_9, zt_9_15, zo_9_15, d_M_item_12, d_M_item_13, d_M_item_14, d_M_item_15, ll_M_112, d_M_item_18, d_M_item_21, zt_21_6, zo_21_6, d_M_item_24, cb_m12, d_M_item_26, d_M_item_27, d_M_item_28, fl_M_102, d_M_item_31, cb_60, d_M_item_33, zt_33_6, zo_33_6, d_M_item_36, cb_m14, d_M_item_38, d_M_item_39, d_M_item_40, d_M_item_41, d_M_item_44, ci_1, d_M_item_45, d_M_item_46, d_M_item_49, d_M_item_50, fl_M_7, d_M_item_53, d_M_item_54, d_M_item_57, d_M_item_58, d_M_item_59, d_M_item_60, fl_M_13, d_M_item_63, d_M_item_64, d_M_item_67, d_M_item_68, d_M_item_69, d_M_item_70, fl_M_20, d_M_item_73, d_M_item_74, d_M_item_77, ci_m1, d_M_item_78, d_M_item_79, cs_488, d_M_item_82, d_M_item_83, d_M_item_86, d_M_item_87, d_M_item_88, d_M_item_89, fl_M_30, d_M_item_92, d_M_item_93, ci_0, d_M_item_94, d_M_item_95, d_M_item_96, fl_M_42, d_M_item_99, d_M_item_100, d_M_item_101, d_M_item_102, d_M_item_103, fl_M_45, d_M_item_106, d_M_item_107, d_M_item_108, d_M_item_109, d_M_item_110, d_M_item_113, za_0, za_i, za_r, za_n, za_l, zu_s, zu_u, Nat.reduceAdd, Nat.reduceLT, Nat.reduceBEq, Nat.zero_add, Bool.false_or, Bool.or_false, Bool.true_or, Bool.or_true, Bool.false_and, Bool.and_false, Bool.true_and, Bool.and_true, true_and, and_true, true_or, or_true, eq_self, Nat.le_refl, List.getElem?_cons_succ, List.getElem?_cons_zero, List.set_cons_succ, List.set_cons_zero, zk_0, zk_1, zk_2, zk_3, zk_4, zq_1, zq_2, Option.isSome_some, Option.getD_some, Option.toList_some, Option.toList_none, List.cons_append, List.nil_append, h0, hic, h60, true_implies, false_implies, not_true_eq_false, not_false_eq_true, zn_10, Int32.reduceLT, Int32.reduceLE, implies_true, and_self]
      refine ⟨fun u => absurd rfl u, fun _ => ⟨I, L, rg_0 hr, hq⟩⟩
    · have e1 : vp_in (nI (N 0 0 + 1)) 61 := vp_in_nI (by omega) (by omega)
      have e2 : (nI (N 0 0 + 1)).toNatClampNeg = N 0 0 + 1 := nI_clamp (by omega)
      have e3 : vp_in (nI (488 + (N 0 0 + 1))) 549 := vp_in_nI (by omega) (by omega)
      have e4 : (nI (488 + (N 0 0 + 1))).toNatClampNeg = 488 + (N 0 0 + 1) := nI_clamp (by omega)
      have e6 : ¬ nI (N 0 0) = 60 := fun u => by
        have := (nI_eq (b := 60) (by omega) (by omega)).mp u
        omega
      refine zgo (cut := fun _ => false) 80 C lk_M hR ?_
      simp only [zs_iconst, zs_bipush, zs_sipush, zs_lconst, zs_ldc2, zs_iload_n, zs_aload_n, zs_istore_n, zs_iadd, zs_i2l, zs_dup0, zs_dup1, zs_dup2, zs_if_eq, zs_if_ne, zs_icmp_ne, zs_get, zs_put, zs_iastore, zs_ireturn, zx_iv, zx_is, zx_it, zx_nw, zx_na, zx_an, zx_cc, zx_gs, zx_as, zx_ae, zx_ac, zx_at, zr_seg, zr_t, zr_f, zr_tp, zr_fp, zr_lg, zr_lr, zr_lr0, zr_wi, zr_wr, zr_wn, zr_wl, zr_vo, zr_so, zr_sI, zr_sL, zr_sA, zr_sN, zr_in, zr_rd, zr_wr2, zr_kf, zr_k0, zr_k1, zr_k2, zr_k3, zr_k3n, zr_k10, zr_k11, zr_k12, zr_k13, zr_k13n, zr_ai, zr_af, zr_aw, zr_aL, zr_Lf, zr_Lw, zr_l2, zr_l20, zr_al, zr_an, zr_aq, zr_ag, zr_rfs, zr_rfn, zr_r1, zr_r2, zr_w0, zr_w1, zr_tl, zr_40, zr_41, zr_42, zr_43, d_M_item_0, d_M_item_1, d_M_item_2, cl_0, d_M_item_3, ll_M_106, d_M_item_6, d_M_item_9, zt_9_15, zo_9_15, d_M_item_12, d_M_item_13, d_M_item_14, d_M_item_15, ll_M_112, d_M_item_18, d_M_item_21, zt_21_6, zo_21_6, d_M_item_24, cb_m12, d_M_item_26, d_M_item_27, d_M_item_28, fl_M_102, d_M_item_31, cb_60, d_M_item_33, zt_33_6, zo_33_6, d_M_item_36, cb_m14, d_M_item_38, d_M_item_39, d_M_item_40, d_M_item_41, d_M_item_44, ci_1, d_M_item_45, d_M_item_46, d_M_item_49, d_M_item_50, fl_M_7, d_M_item_53, d_M_item_54, d_M_item_57, d_M_item_58, d_M_item_59, d_M_item_60, fl_M_13, d_M_item_63, d_M_item_64, d_M_item_67, d_M_item_68, d_M_item_69, d_M_item_70, fl_M_20, d_M_item_73, d_M_item_74, d_M_item_77, ci_m1, d_M_item_78, d_M_item_79, cs_488, d_M_item_82, d_M_item_83, d_M_item_86, d_M_item_87, d_M_item_88, d_M_item_89, fl_M_30, d_M_item_92, d_M_item_93, ci_0, d_M_item_94, d_M_item_95, d_M_item_96, fl_M_42, d_M_item_99, d_M_item_100, d_M_item_101, d_M_item_102, d_M_item_103, fl_M_45, d_M_item_106, d_M_item_107, d_M_item_108, d_M_item_109, d_M_item_110, d_M_item_113, za_0, za_i, za_r, za_n, za_l, zu_s, zu_u, Nat.reduceAdd, Nat.reduceLT, Nat.reduceBEq, Nat.zero_add, Bool.false_or, Bool.or_false, Bool.true_or, Bool.or_true, Bool.false_and, Bool.and_false, Bool.true_and, Bool.and_true, true_and, and_true, true_or, or_true, eq_self, Nat.le_refl, List.getElem?_cons_succ, List.getElem?_cons_zero, List.set_cons_succ, List.set_cons_zero, zk_0, zk_1, zk_2, zk_3, zk_4, zq_1, zq_2, Option.isSome_some, Option.getD_some, Option.toList_some, Option.toList_none, List.cons_append, List.nil_append, h0, h1, h2, h4, h7, h11, h12, zu_n n_0_1, zu_n n_0_2, zu_n n_0_4, zu_n n_0_7, zu_n n_0_11, zu_n n_0_12, zu_n n_1_0, zu_n n_1_2, zu_n n_1_4, zu_n n_1_7, zu_n n_1_11, zu_n n_1_12, zu_n n_2_0, zu_n n_2_1, zu_n n_2_4, zu_n n_2_7, zu_n n_2_11, zu_n n_2_12, zu_n n_4_0, zu_n n_4_1, zu_n n_4_2, zu_n n_4_7, zu_n n_4_11, zu_n n_4_12, zu_n n_7_0, zu_n n_7_1, zu_n n_7_2, zu_n n_7_4, zu_n n_7_11, zu_n n_7_12, zu_n n_11_0, zu_n n_11_1, zu_n n_11_2, zu_n n_11_4, zu_n n_11_7, zu_n n_11_12, zu_n n_12_0, zu_n n_12_1, zu_n n_12_2, zu_n n_12_4, zu_n n_12_7, zu_n n_12_11, hic, e1, e2, e3, e4, e6, at_8, nI_1, true_implies, false_implies, not_true_eq_false, not_false_eq_true, zn_10, Int32.reduceLT, Int32.reduceLE, implies_true, and_self]
      exact ⟨_, _, rg_i 12 (rg_i 11 (rg_i 7 (rg_i 4 (rg_i 2 (rg_i 1 (rg_o (f := upd (I 0) 0 (nI (N 0 0 + 1))) (g := L 0) (rg_0 hr) rfl rfl rfl rfl) rfl) rfl) rfl) rfl) rfl) rfl, rel_item hq hb h60 hs⟩
  · rw [zb_f g2]
    refine zgo (cut := fun _ => false) 60 C lk_M hR ?_
    simp only [zs_iconst, zs_bipush, zs_sipush, zs_lconst, zs_ldc2, zs_iload_n, zs_aload_n, zs_istore_n, zs_iadd, zs_i2l, zs_dup0, zs_dup1, zs_dup2, zs_if_eq, zs_if_ne, zs_icmp_ne, zs_get, zs_put, zs_iastore, zs_ireturn, zx_iv, zx_is, zx_it, zx_nw, zx_na, zx_an, zx_cc, zx_gs, zx_as, zx_ae, zx_ac, zx_at, zr_seg, zr_t, zr_f, zr_tp, zr_fp, zr_lg, zr_lr, zr_lr0, zr_wi, zr_wr, zr_wn, zr_wl, zr_vo, zr_so, zr_sI, zr_sL, zr_sA, zr_sN, zr_in, zr_rd, zr_wr2, zr_kf, zr_k0, zr_k1, zr_k2, zr_k3, zr_k3n, zr_k10, zr_k11, zr_k12, zr_k13, zr_k13n, zr_ai, zr_af, zr_aw, zr_aL, zr_Lf, zr_Lw, zr_l2, zr_l20, zr_al, zr_an, zr_aq, zr_ag, zr_rfs, zr_rfn, zr_r1, zr_r2, zr_w0, zr_w1, zr_tl, zr_40, zr_41, zr_42, zr_43, d_M_item_0, d_M_item_1, d_M_item_2, cl_0, d_M_item_3, ll_M_106, d_M_item_6, d_M_item_9, zt_9_15, zo_9_15, d_M_item_12, d_M_item_13, d_M_item_14, d_M_item_15, ll_M_112, d_M_item_18, d_M_item_21, zt_21_6, zo_21_6, d_M_item_24, cb_m12, d_M_item_26, d_M_item_27, d_M_item_28, fl_M_102, d_M_item_31, cb_60, d_M_item_33, zt_33_6, zo_33_6, d_M_item_36, cb_m14, d_M_item_38, d_M_item_39, d_M_item_40, d_M_item_41, d_M_item_44, ci_1, d_M_item_45, d_M_item_46, d_M_item_49, d_M_item_50, fl_M_7, d_M_item_53, d_M_item_54, d_M_item_57, d_M_item_58, d_M_item_59, d_M_item_60, fl_M_13, d_M_item_63, d_M_item_64, d_M_item_67, d_M_item_68, d_M_item_69, d_M_item_70, fl_M_20, d_M_item_73, d_M_item_74, d_M_item_77, ci_m1, d_M_item_78, d_M_item_79, cs_488, d_M_item_82, d_M_item_83, d_M_item_86, d_M_item_87, d_M_item_88, d_M_item_89, fl_M_30, d_M_item_92, d_M_item_93, ci_0, d_M_item_94, d_M_item_95, d_M_item_96, fl_M_42, d_M_item_99, d_M_item_100, d_M_item_101, d_M_item_102, d_M_item_103, fl_M_45, d_M_item_106, d_M_item_107, d_M_item_108, d_M_item_109, d_M_item_110, d_M_item_113, za_0, za_i, za_r, za_n, za_l, zu_s, zu_u, Nat.reduceAdd, Nat.reduceLT, Nat.reduceBEq, Nat.zero_add, Bool.false_or, Bool.or_false, Bool.true_or, Bool.or_true, Bool.false_and, Bool.and_false, Bool.true_and, Bool.and_true, true_and, and_true, true_or, or_true, eq_self, Nat.le_refl, List.getElem?_cons_succ, List.getElem?_cons_zero, List.set_cons_succ, List.set_cons_zero, zk_0, zk_1, zk_2, zk_3, zk_4, zq_1, zq_2, Option.isSome_some, Option.getD_some, Option.toList_some, Option.toList_none, List.cons_append, List.nil_append, true_implies, false_implies, not_true_eq_false, not_false_eq_true, zn_10, Int32.reduceLT, Int32.reduceLE, implies_true, and_self]
    exact out (fun u => g2 (by have u := u.2; clear hR C hA out g g2; (simp only [Int32.lt_iff_toInt_lt, Int32.le_iff_toInt_le, ← Int32.toInt_inj, Int32.reduceToInt, Int64.lt_iff_toInt_lt, Int64.le_iff_toInt_le, ← Int64.toInt_inj, Int64.reduceToInt, Int32.toInt_toInt64] at *; omega)))
