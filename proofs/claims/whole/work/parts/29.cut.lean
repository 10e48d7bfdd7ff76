/-! cut -/
def zOp (S : Nat → Nat → Nat → Int32) (N : Nat → Nat → Nat) (d : Nat) : Nat → (Nat → Nat → Nat → Int32) × (Nat → Nat → Nat)
  | 0 => (zS S 4 d (fun _ => 1), N)
  | k + 1 => (zS (zOp S N d k).1 6 (100 * d + k) (S 1 k), if (zOp S N d k).2 4 d ≤ k then zN1 (zOp S N d k).2 4 d (k + 1) else (zOp S N d k).2)
theorem zS_zS (S : Nat → Nat → Nat → Int32) (t i : Nat) (F G : Nat → Int32) : zS (zS S t i F) t i G = zS S t i G := by
  funext t' i'
  unfold zS
  by_cases h : t' = t ∧ i' = i
  · rw [if_pos h, if_pos h]
  · rw [if_neg h, if_neg h, if_neg h]
theorem zOp_S {S : Nat → Nat → Nat → Int32} {N : Nat → Nat → Nat} {d t i : Nat} (h4 : t ≠ 4) (h6 : t ≠ 6) : ∀ k, (zOp S N d k).1 t i = S t i
  | 0 => zS_t h4
  | k + 1 => by
    show zS _ 6 _ _ t i = _
    rw [zS_t h6]
    exact zOp_S h4 h6 k
theorem zOp_N {S : Nat → Nat → Nat → Int32} {N : Nat → Nat → Nat} {d t i : Nat} (h : t ≠ 4) : ∀ k, (zOp S N d k).2 t i = N t i
  | 0 => rfl
  | k + 1 => by
    show (if _ then _ else _ : Nat → Nat → Nat) t i = _
    split
    · rw [zN_t h]; exact zOp_N h k
    · exact zOp_N h k
theorem zOp_4 {S : Nat → Nat → Nat → Int32} {N : Nat → Nat → Nat} {d : Nat} : ∀ k, (zOp S N d k).2 4 d = if N 4 d ≤ k then k else N 4 d
  | 0 => by
    show N 4 d = _
    split
    · omega
    · rfl
  | k + 1 => by
    have ih := zOp_4 (S := S) (N := N) (d := d) k
    show (if (zOp S N d k).2 4 d ≤ k then zN1 (zOp S N d k).2 4 d (k + 1) else (zOp S N d k).2) 4 d = _
    split
    · rw [zN_e]
      rename_i h
      rw [ih] at h
      split at h
      · rw [if_pos (by omega)]
      · omega
    · rename_i h
      rw [ih] at h ⊢
      split at h
      · omega
      · rename_i h2
        rw [if_neg h2]
        split
        · omega
        · rfl
set_option maxHeartbeats 4000000 in
set_option maxRecDepth 100000 in
theorem c_V_goOffLine (l : Launch) (D : va_G) (dA : Nat → ClassId) (z : Nat) (M : zVw) (rl : Nat → Nat) (A : Nat → Nat → Nat) (S : Nat → Nat → Nat → Int32) (N : Nat → Nat → Nat) (T : Nat → Int64) (d MC MS : Nat) (d8 : d < 8) (hMC : 2 * (N 0 0 - N 4 d) ≤ MC) (hMS : 1521 * (N 0 0 - N 4 d) ≤ MS) (hr : zRep M rl dA A S N T) : zMet l y_V_goOffLine b_V_goOffLine 3 none 7 171 MC MS D dA z [.ref (A 4 d), .ref (A 0 1)] M (fun v M' => v = none ∧ ∃ rl' A', zRep M' rl' dA A' (zOp S N d (N 0 0)).1 (zOp S N d (N 0 0)).2 T ∧ zFr M rl M' rl' ∧ ∀ t i, t ≠ 8 → t ≠ 10 → A' t i = A t i) := by
  have b1 := hr.2.2.2.2.2.2.2.2.2.2.2.1
  have a9 := hr.2.2.2.2.2.2.2.2.1 d d8
  have a4u := a9.1.1
  unfold zDv at a4u
  have hN4 := a9.2.2.2.2.2
  have l4 : rl (A 4 d) < 5000000 := by rw [a9.1.2]; unfold zr; omega
  refine z_of 0 false (by decide) (fun h => by first | rfl | cases h) (Nat.le_of_ble_eq_true rfl) trivial ?_
  intro p e s m args below meth c C hR
  have loop : ∀ (k i : Nat) (M1 : zVw) (rl1 : Nat → Nat) (A1 : Nat → Nat → Nat), N 0 0 - i ≤ k → i ≤ N 0 0 → zRep M1 rl1 dA A1 (zOp S N d i).1 (zOp S N d i).2 T → zFr M rl M1 rl1 → (∀ t i, t ≠ 8 → t ≠ 10 → A1 t i = A t i) → zJ p l e (zR 7 171 MC MS) s m args below meth c (MQ below (zQ D dA z (fun v M' => v = none ∧ ∃ rl' A', zRep M' rl' dA A' (zOp S N d (N 0 0)).1 (zOp S N d (N 0 0)).2 T ∧ zFr M rl M' rl' ∧ ∀ t i, t ≠ 8 → t ≠ 10 → A' t i = A t i)) args s MC MS (fun q => z ≤ q)) 3 z D 7 [(2, .int (nI i)), (0, .ref (A 4 d)), (1, .ref (A 0 1))] [] M1 (2 * (i - N 4 d)) (1521 * (i - N 4 d)) := by
    intro k
    induction k with
    | zero =>
      intro i M1 rl1 A1 k1 k2 hr1 hf1 hA1
      have hi : i = N 0 0 := by omega
      subst hi
      obtain ⟨cap, g, mo, q1, q2, q3⟩ := zLr_get hr1.2.1
      rw [zOp_N (by decide), hA1 0 1 (by decide) (by decide)] at q1
      refine zgo (cut := fun q => q == 7) 60 C lk_V hR ?_
      simp only [zs_iconst, zs_iload_n, zs_aload_n, zs_istore_n, zs_dup0, zs_dup1, zs_pop0, zs_pop1, zs_pop2, zs_dup2, zs_icmp_lt, zs_icmp_ge, zs_goto, zs_iinc, zs_get, zs_put, zs_return, zx_iv, zx_is, zx_it, zx_nw, zx_na, zx_an, zx_cc, zx_gs, zx_as, zx_ae, zx_ac, zx_at, zr_seg, zr_t, zr_f, zr_tp, zr_fp, zr_lg, zr_lr, zr_lr0, zr_wi, zr_wr, zr_wn, zr_wl, zr_vo, zr_so, zr_sI, zr_sL, zr_sA, zr_sN, zr_in, zr_rd, zr_wr2, zr_kf, zr_k0, zr_k1, zr_k2, zr_k3, zr_k3n, zr_k10, zr_k11, zr_k12, zr_k13, zr_k13n, zr_ai, zr_af, zr_aw, zr_aL, zr_Lf, zr_Lw, zr_l2, zr_l20, zr_al, zr_an, zr_aq, zr_ag, zr_rfs, zr_rfn, zr_r1, zr_r2, zr_w0, zr_w1, zr_tl, zr_40, zr_41, zr_42, zr_43, d_V_goOffLine_0, d_V_goOffLine_1, ci_1, d_V_goOffLine_2, fl_V_7, d_V_goOffLine_5, ci_0, d_V_goOffLine_6, d_V_goOffLine_7, d_V_goOffLine_8, d_V_goOffLine_9, d_V_goOffLine_12, zt_12_60, zo_12_60, d_V_goOffLine_15, d_V_goOffLine_16, d_V_goOffLine_17, fl_V_24, d_V_goOffLine_20, d_V_goOffLine_23, zt_23_18, zo_23_18, d_V_goOffLine_26, d_V_goOffLine_27, d_V_goOffLine_30, d_V_goOffLine_33, d_V_goOffLine_34, d_V_goOffLine_37, d_V_goOffLine_40, d_V_goOffLine_41, d_V_goOffLine_42, d_V_goOffLine_45, d_V_goOffLine_46, d_V_goOffLine_49, d_V_goOffLine_52, d_V_goOffLine_53, d_V_goOffLine_54, d_V_goOffLine_57, d_V_goOffLine_60, fl_V_48, d_V_goOffLine_63, d_V_goOffLine_66, d_V_goOffLine_69, zt_69_m62, zo_69_m62, d_V_goOffLine_72, za_0, za_i, za_r, za_n, za_l, zu_s, zu_u, Nat.reduceAdd, Nat.reduceLT, Nat.reduceBEq, Nat.zero_add, Bool.false_or, Bool.or_false, Bool.true_or, Bool.or_true, Bool.false_and, Bool.and_false, Bool.true_and, Bool.and_true, true_and, and_true, true_or, or_true, eq_self, Nat.le_refl, List.getElem?_cons_succ, List.getElem?_cons_zero, List.set_cons_succ, List.set_cons_zero, zk_0, zk_1, zk_2, zk_3, zk_4, zq_1, zq_2, Option.isSome_some, Option.getD_some, Option.toList_some, Option.toList_none, List.cons_append, List.nil_append, true_implies, false_implies, not_true_eq_false, not_false_eq_true, zn_10, Int32.reduceLT, Int32.reduceLE, implies_true, and_self]
      refine zJ_callV (As := []) (rest := [.int (nI (N 0 0))]) C d_V_goOffLine_9 (c_L_size l D dA z M1 (A 0 1) _ (N 0 0) mo q1.1) k_V_33 n_L_size v_L_size q1.1 rfl rfl ⟨(Nat.le_of_ble_eq_true rfl), (Nat.le_of_ble_eq_true rfl)⟩ ⟨by show _ + 0 ≤ MC; omega, by show _ + 0 ≤ MS; omega⟩ rfl (Nat.le_of_ble_eq_true rfl) ?_
      rintro v M9 ⟨e0, rfl⟩; have e0 := e0.symm; subst e0
      refine zgo (cut := fun q => q == 7) 60 C lk_V hR ?_
      simp only [zs_iconst, zs_iload_n, zs_aload_n, zs_istore_n, zs_dup0, zs_dup1, zs_pop0, zs_pop1, zs_pop2, zs_dup2, zs_icmp_lt, zs_icmp_ge, zs_goto, zs_iinc, zs_get, zs_put, zs_return, zx_iv, zx_is, zx_it, zx_nw, zx_na, zx_an, zx_cc, zx_gs, zx_as, zx_ae, zx_ac, zx_at, zr_seg, zr_t, zr_f, zr_tp, zr_fp, zr_lg, zr_lr, zr_lr0, zr_wi, zr_wr, zr_wn, zr_wl, zr_vo, zr_so, zr_sI, zr_sL, zr_sA, zr_sN, zr_in, zr_rd, zr_wr2, zr_kf, zr_k0, zr_k1, zr_k2, zr_k3, zr_k3n, zr_k10, zr_k11, zr_k12, zr_k13, zr_k13n, zr_ai, zr_af, zr_aw, zr_aL, zr_Lf, zr_Lw, zr_l2, zr_l20, zr_al, zr_an, zr_aq, zr_ag, zr_rfs, zr_rfn, zr_r1, zr_r2, zr_w0, zr_w1, zr_tl, zr_40, zr_41, zr_42, zr_43, d_V_goOffLine_0, d_V_goOffLine_1, ci_1, d_V_goOffLine_2, fl_V_7, d_V_goOffLine_5, ci_0, d_V_goOffLine_6, d_V_goOffLine_7, d_V_goOffLine_8, d_V_goOffLine_9, d_V_goOffLine_12, zt_12_60, zo_12_60, d_V_goOffLine_15, d_V_goOffLine_16, d_V_goOffLine_17, fl_V_24, d_V_goOffLine_20, d_V_goOffLine_23, zt_23_18, zo_23_18, d_V_goOffLine_26, d_V_goOffLine_27, d_V_goOffLine_30, d_V_goOffLine_33, d_V_goOffLine_34, d_V_goOffLine_37, d_V_goOffLine_40, d_V_goOffLine_41, d_V_goOffLine_42, d_V_goOffLine_45, d_V_goOffLine_46, d_V_goOffLine_49, d_V_goOffLine_52, d_V_goOffLine_53, d_V_goOffLine_54, d_V_goOffLine_57, d_V_goOffLine_60, fl_V_48, d_V_goOffLine_63, d_V_goOffLine_66, d_V_goOffLine_69, zt_69_m62, zo_69_m62, d_V_goOffLine_72, za_0, za_i, za_r, za_n, za_l, zu_s, zu_u, Nat.reduceAdd, Nat.reduceLT, Nat.reduceBEq, Nat.zero_add, Bool.false_or, Bool.or_false, Bool.true_or, Bool.or_true, Bool.false_and, Bool.and_false, Bool.true_and, Bool.and_true, true_and, and_true, true_or, or_true, eq_self, Nat.le_refl, List.getElem?_cons_succ, List.getElem?_cons_zero, List.set_cons_succ, List.set_cons_zero, zk_0, zk_1, zk_2, zk_3, zk_4, zq_1, zq_2, Option.isSome_some, Option.getD_some, Option.toList_some, Option.toList_none, List.cons_append, List.nil_append, true_implies, false_implies, not_true_eq_false, not_false_eq_true, zn_10, Int32.reduceLT, Int32.reduceLE, implies_true, and_self]
      exact ⟨fun _ => ⟨by omega, by omega, rl1, A1, hr1, hf1, hA1⟩, fun y => absurd (nI_le (Nat.le_refl _) (by omega)) y⟩
    | succ k ih =>
      intro i M1 rl1 A1 k1 k2 hr1 hf1 hA1
      obtain ⟨cap, g, mo, q1, q2, q3⟩ := zLr_get hr1.2.1
      rw [zOp_N (by decide), hA1 0 1 (by decide) (by decide)] at q1
      refine zgo (cut := fun q => q == 7) 60 C lk_V hR ?_
      simp only [zs_iconst, zs_iload_n, zs_aload_n, zs_istore_n, zs_dup0, zs_dup1, zs_pop0, zs_pop1, zs_pop2, zs_dup2, zs_icmp_lt, zs_icmp_ge, zs_goto, zs_iinc, zs_get, zs_put, zs_return, zx_iv, zx_is, zx_it, zx_nw, zx_na, zx_an, zx_cc, zx_gs, zx_as, zx_ae, zx_ac, zx_at, zr_seg, zr_t, zr_f, zr_tp, zr_fp, zr_lg, zr_lr, zr_lr0, zr_wi, zr_wr, zr_wn, zr_wl, zr_vo, zr_so, zr_sI, zr_sL, zr_sA, zr_sN, zr_in, zr_rd, zr_wr2, zr_kf, zr_k0, zr_k1, zr_k2, zr_k3, zr_k3n, zr_k10, zr_k11, zr_k12, zr_k13, zr_k13n, zr_ai, zr_af, zr_aw, zr_aL, zr_Lf, zr_Lw, zr_l2, zr_l20, zr_al, zr_an, zr_aq, zr_ag, zr_rfs, zr_rfn, zr_r1, zr_r2, zr_w0, zr_w1, zr_tl, zr_40, zr_41, zr_42, zr_43, d_V_goOffLine_0, d_V_goOffLine_1, ci_1, d_V_goOffLine_2, fl_V_7, d_V_goOffLine_5, ci_0, d_V_goOffLine_6, d_V_goOffLine_7, d_V_goOffLine_8, d_V_goOffLine_9, d_V_goOffLine_12, zt_12_60, zo_12_60, d_V_goOffLine_15, d_V_goOffLine_16, d_V_goOffLine_17, fl_V_24, d_V_goOffLine_20, d_V_goOffLine_23, zt_23_18, zo_23_18, d_V_goOffLine_26, d_V_goOffLine_27, d_V_goOffLine_30, d_V_goOffLine_33, d_V_goOffLine_34, d_V_goOffLine_37, d_V_goOffLine_40, d_V_goOffLine_41, d_V_goOffLine_42, d_V_goOffLine_45, d_V_goOffLine_46, d_V_goOffLine_49, d_V_goOffLine_52, d_V_goOffLine_53, d_V_goOffLine_54, d_V_goOffLine_57, d_V_goOffLine_60, fl_V_48, d_V_goOffLine_63, d_V_goOffLine_66, d_V_goOffLine_69, zt_69_m62, zo_69_m62, d_V_goOffLine_72, za_0, za_i, za_r, za_n, za_l, zu_s, zu_u, Nat.reduceAdd, Nat.reduceLT, Nat.reduceBEq, Nat.zero_add, Bool.false_or, Bool.or_false, Bool.true_or, Bool.or_true, Bool.false_and, Bool.and_false, Bool.true_and, Bool.and_true, true_and, and_true, true_or, or_true, eq_self, Nat.le_refl, List.getElem?_cons_succ, List.getElem?_cons_zero, List.set_cons_succ, List.set_cons_zero, zk_0, zk_1, zk_2, zk_3, zk_4, zq_1, zq_2, Option.isSome_some, Option.getD_some, Option.toList_some, Option.toList_none, List.cons_append, List.nil_append, true_implies, false_implies, not_true_eq_false, not_false_eq_true, zn_10, Int32.reduceLT, Int32.reduceLE, implies_true, and_self]
      refine zJ_callV (As := []) (rest := [.int (nI i)]) C d_V_goOffLine_9 (c_L_size l D dA z M1 (A 0 1) _ (N 0 0) mo q1.1) k_V_33 n_L_size v_L_size q1.1 rfl rfl ⟨(Nat.le_of_ble_eq_true rfl), (Nat.le_of_ble_eq_true rfl)⟩ ⟨by show _ + 0 ≤ MC; omega, by show _ + 0 ≤ MS; omega⟩ rfl (Nat.le_of_ble_eq_true rfl) ?_
      rintro v M9 ⟨e0, rfl⟩; have e0 := e0.symm; subst e0
      have c9 := hr1.2.2.2.2.2.2.2.2.1 d d8
      have c4u := c9.1.1
      unfold zDv at c4u
      rw [hA1 4 d (by decide) (by decide), hA1 6 d (by decide) (by decide)] at c4u
      refine zgo (cut := fun q => q == 7) 60 C lk_V hR ?_
      simp only [zs_iconst, zs_iload_n, zs_aload_n, zs_istore_n, zs_dup0, zs_dup1, zs_pop0, zs_pop1, zs_pop2, zs_dup2, zs_icmp_lt, zs_icmp_ge, zs_goto, zs_iinc, zs_get, zs_put, zs_return, zx_iv, zx_is, zx_it, zx_nw, zx_na, zx_an, zx_cc, zx_gs, zx_as, zx_ae, zx_ac, zx_at, zr_seg, zr_t, zr_f, zr_tp, zr_fp, zr_lg, zr_lr, zr_lr0, zr_wi, zr_wr, zr_wn, zr_wl, zr_vo, zr_so, zr_sI, zr_sL, zr_sA, zr_sN, zr_in, zr_rd, zr_wr2, zr_kf, zr_k0, zr_k1, zr_k2, zr_k3, zr_k3n, zr_k10, zr_k11, zr_k12, zr_k13, zr_k13n, zr_ai, zr_af, zr_aw, zr_aL, zr_Lf, zr_Lw, zr_l2, zr_l20, zr_al, zr_an, zr_aq, zr_ag, zr_rfs, zr_rfn, zr_r1, zr_r2, zr_w0, zr_w1, zr_tl, zr_40, zr_41, zr_42, zr_43, d_V_goOffLine_0, d_V_goOffLine_1, ci_1, d_V_goOffLine_2, fl_V_7, d_V_goOffLine_5, ci_0, d_V_goOffLine_6, d_V_goOffLine_7, d_V_goOffLine_8, d_V_goOffLine_9, d_V_goOffLine_12, zt_12_60, zo_12_60, d_V_goOffLine_15, d_V_goOffLine_16, d_V_goOffLine_17, fl_V_24, d_V_goOffLine_20, d_V_goOffLine_23, zt_23_18, zo_23_18, d_V_goOffLine_26, d_V_goOffLine_27, d_V_goOffLine_30, d_V_goOffLine_33, d_V_goOffLine_34, d_V_goOffLine_37, d_V_goOffLine_40, d_V_goOffLine_41, d_V_goOffLine_42, d_V_goOffLine_45, d_V_goOffLine_46, d_V_goOffLine_49, d_V_goOffLine_52, d_V_goOffLine_53, d_V_goOffLine_54, d_V_goOffLine_57, d_V_goOffLine_60, fl_V_48, d_V_goOffLine_63, d_V_goOffLine_66, d_V_goOffLine_69, zt_69_m62, zo_69_m62, d_V_goOffLine_72, za_0, za_i, za_r, za_n, za_l, zu_s, zu_u, Nat.reduceAdd, Nat.reduceLT, Nat.reduceBEq, Nat.zero_add, Bool.false_or, Bool.or_false, Bool.true_or, Bool.or_true, Bool.false_and, Bool.and_false, Bool.true_and, Bool.and_true, true_and, and_true, true_or, or_true, eq_self, Nat.le_refl, List.getElem?_cons_succ, List.getElem?_cons_zero, List.set_cons_succ, List.set_cons_zero, zk_0, zk_1, zk_2, zk_3, zk_4, zq_1, zq_2, Option.isSome_some, Option.getD_some, Option.toList_some, Option.toList_none, List.cons_append, List.nil_append, c4u, true_implies, false_implies, not_true_eq_false, not_false_eq_true, zn_10, Int32.reduceLT, Int32.reduceLE, implies_true, and_self]
      refine ⟨fun y => ?_, fun y => ?_⟩
      · have hi : i = N 0 0 := by
          rcases Nat.lt_or_ge i (N 0 0) with u | u
          · exact absurd y (nI_ge u (by omega))
          · omega
        subst hi
        exact ⟨by omega, by omega, rl1, A1, hr1, hf1, hA1⟩
      · have hlt : i < N 0 0 := by
          rcases Nat.lt_or_ge i (N 0 0) with u | u
          · exact u
          · exact absurd (nI_le u (by omega)) y
        obtain ⟨cap6, g6, mo6, s1, s2, s3, s4, s5⟩ := c9.2.2.2.1
        rw [hA1 6 d (by decide) (by decide)] at s1 s3
        have e4 := zOp_4 (S := S) (N := N) (d := d) i
        -- the copying, once the place is there
        have copy : ∀ (M2 : zVw) (rl2 : Nat → Nat) (A2 : Nat → Nat → Nat) (S2 : Nat → Nat → Nat → Int32) (kk nn : Nat), zRep M2 rl2 dA A2 S2 (zOp S N d (i + 1)).2 T → zFr M rl M2 rl2 → (∀ t i, t ≠ 8 → t ≠ 10 → A2 t i = A t i) → S2 1 i = S 1 i → zS S2 6 (100 * d + i) (S 1 i) = (zOp S N d (i + 1)).1 → kk ≤ 2 * (i + 1 - N 4 d) → nn ≤ 1521 * (i + 1 - N 4 d) → zJ p l e (zR 7 171 MC MS) s m args below meth c (MQ below (zQ D dA z (fun v M' => v = none ∧ ∃ rl' A', zRep M' rl' dA A' (zOp S N d (N 0 0)).1 (zOp S N d (N 0 0)).2 T ∧ zFr M rl M' rl' ∧ ∀ t i, t ≠ 8 → t ≠ 10 → A' t i = A t i)) args s MC MS (fun q => z ≤ q)) 3 z D 41 [(2, .int (nI i)), (0, .ref (A 4 d)), (1, .ref (A 0 1))] [] M2 kk nn := by
          intro M2 rl2 A2 S2 kk nn hr2 hf2 hA2 hS2 hS3 hkk hnn
          have f9 := hr2.2.2.2.2.2.2.2.2.1 d d8
          have f4u := f9.1.1
          unfold zDv at f4u
          rw [hA2 4 d (by decide) (by decide), hA2 6 d (by decide) (by decide)] at f4u
          obtain ⟨capK, gK, moK, u1, u2, u3⟩ := zLr_get f9.2.2.2.1
          rw [hA2 6 d (by decide) (by decide)] at u1
          have eK := zOp_4 (S := S) (N := N) (d := d) (i + 1)
          have hiK : i < (zOp S N d (i + 1)).2 4 d := by rw [eK]; split <;> omega
          have hncK : (zOp S N d (i + 1)).2 4 d ≤ capK := by
            rcases u1.2 with ⟨_, w1, w2⟩ | ⟨_, w1, _⟩
            · omega
            · exact w1
          have f11 := hr2.2.2.2.2.2.2.2.2.2.2.1 d i d8 hiK
          obtain ⟨capI, gI, moI, v1, v2, v3⟩ := zLr_get hr2.2.1
          rw [hA2 0 1 (by decide) (by decide)] at v1
          have hiI : i < (zOp S N d (i + 1)).2 0 0 := by rw [zOp_N (by decide)]; exact hlt
          have hncI : (zOp S N d (i + 1)).2 0 0 ≤ capI := by
            rcases v1.2 with ⟨_, w1, w2⟩ | ⟨_, w1, _⟩
            · omega
            · exact w1
          have f7 := hr2.2.2.2.2.2.2.1 i hiI
          have f7u := f7.1.1
          unfold iA at f7u
          rcases u1.2 with ⟨_, w1, _⟩ | ⟨hE, _, _⟩
          · omega
          rcases v1.2 with ⟨_, w1, _⟩ | ⟨hEI, _, _⟩
          · omega
          have hne : A2 2 i ≠ A2 10 (100 * d + i) := fun u => by
            have a := f7.2.1.2
            rw [u, f11.1.2] at a
            revert a
            unfold zr
            omega
          have lk10 : rl2 (A2 10 (100 * d + i)) < 5000000 := by rw [f11.1.2]; unfold zr; omega
          refine zgo (cut := fun q => q == 7) 60 C lk_V hR ?_
          simp only [zs_iconst, zs_iload_n, zs_aload_n, zs_istore_n, zs_dup0, zs_dup1, zs_pop0, zs_pop1, zs_pop2, zs_dup2, zs_icmp_lt, zs_icmp_ge, zs_goto, zs_iinc, zs_get, zs_put, zs_return, zx_iv, zx_is, zx_it, zx_nw, zx_na, zx_an, zx_cc, zx_gs, zx_as, zx_ae, zx_ac, zx_at, zr_seg, zr_t, zr_f, zr_tp, zr_fp, zr_lg, zr_lr, zr_lr0, zr_wi, zr_wr, zr_wn, zr_wl, zr_vo, zr_so, zr_sI, zr_sL, zr_sA, zr_sN, zr_in, zr_rd, zr_wr2, zr_kf, zr_k0, zr_k1, zr_k2, zr_k3, zr_k3n, zr_k10, zr_k11, zr_k12, zr_k13, zr_k13n, zr_ai, zr_af, zr_aw, zr_aL, zr_Lf, zr_Lw, zr_l2, zr_l20, zr_al, zr_an, zr_aq, zr_ag, zr_rfs, zr_rfn, zr_r1, zr_r2, zr_w0, zr_w1, zr_tl, zr_40, zr_41, zr_42, zr_43, d_V_goOffLine_0, d_V_goOffLine_1, ci_1, d_V_goOffLine_2, fl_V_7, d_V_goOffLine_5, ci_0, d_V_goOffLine_6, d_V_goOffLine_7, d_V_goOffLine_8, d_V_goOffLine_9, d_V_goOffLine_12, zt_12_60, zo_12_60, d_V_goOffLine_15, d_V_goOffLine_16, d_V_goOffLine_17, fl_V_24, d_V_goOffLine_20, d_V_goOffLine_23, zt_23_18, zo_23_18, d_V_goOffLine_26, d_V_goOffLine_27, d_V_goOffLine_30, d_V_goOffLine_33, d_V_goOffLine_34, d_V_goOffLine_37, d_V_goOffLine_40, d_V_goOffLine_41, d_V_goOffLine_42, d_V_goOffLine_45, d_V_goOffLine_46, d_V_goOffLine_49, d_V_goOffLine_52, d_V_goOffLine_53, d_V_goOffLine_54, d_V_goOffLine_57, d_V_goOffLine_60, fl_V_48, d_V_goOffLine_63, d_V_goOffLine_66, d_V_goOffLine_69, zt_69_m62, zo_69_m62, d_V_goOffLine_72, za_0, za_i, za_r, za_n, za_l, zu_s, zu_u, Nat.reduceAdd, Nat.reduceLT, Nat.reduceBEq, Nat.zero_add, Bool.false_or, Bool.or_false, Bool.true_or, Bool.or_true, Bool.false_and, Bool.and_false, Bool.true_and, Bool.and_true, true_and, and_true, true_or, or_true, eq_self, Nat.le_refl, List.getElem?_cons_succ, List.getElem?_cons_zero, List.set_cons_succ, List.set_cons_zero, zk_0, zk_1, zk_2, zk_3, zk_4, zq_1, zq_2, Option.isSome_some, Option.getD_some, Option.toList_some, Option.toList_none, List.cons_append, List.nil_append, f4u, true_implies, false_implies, not_true_eq_false, not_false_eq_true, zn_10, Int32.reduceLT, Int32.reduceLE, implies_true, and_self]
          refine zJ_callV (As := [.int (nI i)]) (rest := []) C d_V_goOffLine_46 (c_L_get l D dA z M2 (A 6 d) _ _ capK i (A2 10 (100 * d + i)) moK gK u1.1 hE hiK hncK (by omega) (u3 i hiK)) k_V_37 n_L_get v_L_get u1.1 rfl rfl ⟨(Nat.le_of_ble_eq_true rfl), (Nat.le_of_ble_eq_true rfl)⟩ ⟨by show _ + 0 ≤ MC; omega, by show _ + 0 ≤ MS; omega⟩ rfl (Nat.le_of_ble_eq_true rfl) ?_
          rintro v M9 ⟨e0, rfl⟩; have e0 := e0.symm; subst e0
          refine zJ_cast (ci := 5) (rest := []) C d_V_goOffLine_49 (by decide +kernel) rfl rfl f11.1.1 ?_
          refine zgo (cut := fun q => q == 7) 60 C lk_V hR ?_
          simp only [zs_iconst, zs_iload_n, zs_aload_n, zs_istore_n, zs_dup0, zs_dup1, zs_pop0, zs_pop1, zs_pop2, zs_dup2, zs_icmp_lt, zs_icmp_ge, zs_goto, zs_iinc, zs_get, zs_put, zs_return, zx_iv, zx_is, zx_it, zx_nw, zx_na, zx_an, zx_cc, zx_gs, zx_as, zx_ae, zx_ac, zx_at, zr_seg, zr_t, zr_f, zr_tp, zr_fp, zr_lg, zr_lr, zr_lr0, zr_wi, zr_wr, zr_wn, zr_wl, zr_vo, zr_so, zr_sI, zr_sL, zr_sA, zr_sN, zr_in, zr_rd, zr_wr2, zr_kf, zr_k0, zr_k1, zr_k2, zr_k3, zr_k3n, zr_k10, zr_k11, zr_k12, zr_k13, zr_k13n, zr_ai, zr_af, zr_aw, zr_aL, zr_Lf, zr_Lw, zr_l2, zr_l20, zr_al, zr_an, zr_aq, zr_ag, zr_rfs, zr_rfn, zr_r1, zr_r2, zr_w0, zr_w1, zr_tl, zr_40, zr_41, zr_42, zr_43, d_V_goOffLine_0, d_V_goOffLine_1, ci_1, d_V_goOffLine_2, fl_V_7, d_V_goOffLine_5, ci_0, d_V_goOffLine_6, d_V_goOffLine_7, d_V_goOffLine_8, d_V_goOffLine_9, d_V_goOffLine_12, zt_12_60, zo_12_60, d_V_goOffLine_15, d_V_goOffLine_16, d_V_goOffLine_17, fl_V_24, d_V_goOffLine_20, d_V_goOffLine_23, zt_23_18, zo_23_18, d_V_goOffLine_26, d_V_goOffLine_27, d_V_goOffLine_30, d_V_goOffLine_33, d_V_goOffLine_34, d_V_goOffLine_37, d_V_goOffLine_40, d_V_goOffLine_41, d_V_goOffLine_42, d_V_goOffLine_45, d_V_goOffLine_46, d_V_goOffLine_49, d_V_goOffLine_52, d_V_goOffLine_53, d_V_goOffLine_54, d_V_goOffLine_57, d_V_goOffLine_60, fl_V_48, d_V_goOffLine_63, d_V_goOffLine_66, d_V_goOffLine_69, zt_69_m62, zo_69_m62, d_V_goOffLine_72, za_0, za_i, za_r, za_n, za_l, zu_s, zu_u, Nat.reduceAdd, Nat.reduceLT, Nat.reduceBEq, Nat.zero_add, Bool.false_or, Bool.or_false, Bool.true_or, Bool.or_true, Bool.false_and, Bool.and_false, Bool.true_and, Bool.and_true, true_and, and_true, true_or, or_true, eq_self, Nat.le_refl, List.getElem?_cons_succ, List.getElem?_cons_zero, List.set_cons_succ, List.set_cons_zero, zk_0, zk_1, zk_2, zk_3, zk_4, zq_1, zq_2, Option.isSome_some, Option.getD_some, Option.toList_some, Option.toList_none, List.cons_append, List.nil_append, f4u, true_implies, false_implies, not_true_eq_false, not_false_eq_true, zn_10, Int32.reduceLT, Int32.reduceLE, implies_true, and_self]
          refine zJ_callV (As := [.int (nI i)]) (rest := [.ref (A2 10 (100 * d + i))]) C d_V_goOffLine_54 (c_L_get l D dA z M2 (A 0 1) _ _ capI i (A2 1 i) moI gI v1.1 hEI hiI hncI (by omega) (v3 i hiI)) k_V_37 n_L_get v_L_get v1.1 rfl rfl ⟨(Nat.le_of_ble_eq_true rfl), (Nat.le_of_ble_eq_true rfl)⟩ ⟨by show _ + 0 ≤ MC; omega, by show _ + 0 ≤ MS; omega⟩ rfl (Nat.le_of_ble_eq_true rfl) ?_
          rintro v M9 ⟨e0, rfl⟩; have e0 := e0.symm; subst e0
          refine zJ_cast (ci := 6) (rest := [.ref (A2 10 (100 * d + i))]) C d_V_goOffLine_57 (by decide +kernel) rfl rfl f7.1.1 ?_
          refine zgo (cut := fun q => q == 7) 60 C lk_V hR ?_
          simp only [zs_iconst, zs_iload_n, zs_aload_n, zs_istore_n, zs_dup0, zs_dup1, zs_pop0, zs_pop1, zs_pop2, zs_dup2, zs_icmp_lt, zs_icmp_ge, zs_goto, zs_iinc, zs_get, zs_put, zs_return, zx_iv, zx_is, zx_it, zx_nw, zx_na, zx_an, zx_cc, zx_gs, zx_as, zx_ae, zx_ac, zx_at, zr_seg, zr_t, zr_f, zr_tp, zr_fp, zr_lg, zr_lr, zr_lr0, zr_wi, zr_wr, zr_wn, zr_wl, zr_vo, zr_so, zr_sI, zr_sL, zr_sA, zr_sN, zr_in, zr_rd, zr_wr2, zr_kf, zr_k0, zr_k1, zr_k2, zr_k3, zr_k3n, zr_k10, zr_k11, zr_k12, zr_k13, zr_k13n, zr_ai, zr_af, zr_aw, zr_aL, zr_Lf, zr_Lw, zr_l2, zr_l20, zr_al, zr_an, zr_aq, zr_ag, zr_rfs, zr_rfn, zr_r1, zr_r2, zr_w0, zr_w1, zr_tl, zr_40, zr_41, zr_42, zr_43, d_V_goOffLine_0, d_V_goOffLine_1, ci_1, d_V_goOffLine_2, fl_V_7, d_V_goOffLine_5, ci_0, d_V_goOffLine_6, d_V_goOffLine_7, d_V_goOffLine_8, d_V_goOffLine_9, d_V_goOffLine_12, zt_12_60, zo_12_60, d_V_goOffLine_15, d_V_goOffLine_16, d_V_goOffLine_17, fl_V_24, d_V_goOffLine_20, d_V_goOffLine_23, zt_23_18, zo_23_18, d_V_goOffLine_26, d_V_goOffLine_27, d_V_goOffLine_30, d_V_goOffLine_33, d_V_goOffLine_34, d_V_goOffLine_37, d_V_goOffLine_40, d_V_goOffLine_41, d_V_goOffLine_42, d_V_goOffLine_45, d_V_goOffLine_46, d_V_goOffLine_49, d_V_goOffLine_52, d_V_goOffLine_53, d_V_goOffLine_54, d_V_goOffLine_57, d_V_goOffLine_60, fl_V_48, d_V_goOffLine_63, d_V_goOffLine_66, d_V_goOffLine_69, zt_69_m62, zo_69_m62, d_V_goOffLine_72, za_0, za_i, za_r, za_n, za_l, zu_s, zu_u, Nat.reduceAdd, Nat.reduceLT, Nat.reduceBEq, Nat.zero_add, Bool.false_or, Bool.or_false, Bool.true_or, Bool.or_true, Bool.false_and, Bool.and_false, Bool.true_and, Bool.and_true, true_and, and_true, true_or, or_true, eq_self, Nat.le_refl, List.getElem?_cons_succ, List.getElem?_cons_zero, List.set_cons_succ, List.set_cons_zero, zk_0, zk_1, zk_2, zk_3, zk_4, zq_1, zq_2, Option.isSome_some, Option.getD_some, Option.toList_some, Option.toList_none, List.cons_append, List.nil_append, f7u, true_implies, false_implies, not_true_eq_false, not_false_eq_true, zn_10, Int32.reduceLT, Int32.reduceLE, implies_true, and_self]
          refine zJ_callV (As := [.ref (A2 2 i)]) (rest := []) C d_V_goOffLine_63 (c_F_copyFrom l D dA z M2 (A2 10 (100 * d + i)) (A2 2 i) _ (S2 1 i) f11.1.1 f7.2.1.1 hne f7.2.2) k_V_52 n_F_copyFrom v_F_copyFrom f11.1.1 rfl rfl ⟨(Nat.le_of_ble_eq_true rfl), (Nat.le_of_ble_eq_true rfl)⟩ ⟨by show _ + 0 ≤ MC; omega, by show _ + 0 ≤ MS; omega⟩ rfl (Nat.le_of_ble_eq_true rfl) ?_
          rintro v M9 ⟨rfl, rfl⟩
          refine zgo (cut := fun q => q == 7) 60 C lk_V hR ?_
          simp only [zs_iconst, zs_iload_n, zs_aload_n, zs_istore_n, zs_dup0, zs_dup1, zs_pop0, zs_pop1, zs_pop2, zs_dup2, zs_icmp_lt, zs_icmp_ge, zs_goto, zs_iinc, zs_get, zs_put, zs_return, zx_iv, zx_is, zx_it, zx_nw, zx_na, zx_an, zx_cc, zx_gs, zx_as, zx_ae, zx_ac, zx_at, zr_seg, zr_t, zr_f, zr_tp, zr_fp, zr_lg, zr_lr, zr_lr0, zr_wi, zr_wr, zr_wn, zr_wl, zr_vo, zr_so, zr_sI, zr_sL, zr_sA, zr_sN, zr_in, zr_rd, zr_wr2, zr_kf, zr_k0, zr_k1, zr_k2, zr_k3, zr_k3n, zr_k10, zr_k11, zr_k12, zr_k13, zr_k13n, zr_ai, zr_af, zr_aw, zr_aL, zr_Lf, zr_Lw, zr_l2, zr_l20, zr_al, zr_an, zr_aq, zr_ag, zr_rfs, zr_rfn, zr_r1, zr_r2, zr_w0, zr_w1, zr_tl, zr_40, zr_41, zr_42, zr_43, d_V_goOffLine_0, d_V_goOffLine_1, ci_1, d_V_goOffLine_2, fl_V_7, d_V_goOffLine_5, ci_0, d_V_goOffLine_6, d_V_goOffLine_7, d_V_goOffLine_8, d_V_goOffLine_9, d_V_goOffLine_12, zt_12_60, zo_12_60, d_V_goOffLine_15, d_V_goOffLine_16, d_V_goOffLine_17, fl_V_24, d_V_goOffLine_20, d_V_goOffLine_23, zt_23_18, zo_23_18, d_V_goOffLine_26, d_V_goOffLine_27, d_V_goOffLine_30, d_V_goOffLine_33, d_V_goOffLine_34, d_V_goOffLine_37, d_V_goOffLine_40, d_V_goOffLine_41, d_V_goOffLine_42, d_V_goOffLine_45, d_V_goOffLine_46, d_V_goOffLine_49, d_V_goOffLine_52, d_V_goOffLine_53, d_V_goOffLine_54, d_V_goOffLine_57, d_V_goOffLine_60, fl_V_48, d_V_goOffLine_63, d_V_goOffLine_66, d_V_goOffLine_69, zt_69_m62, zo_69_m62, d_V_goOffLine_72, za_0, za_i, za_r, za_n, za_l, zu_s, zu_u, Nat.reduceAdd, Nat.reduceLT, Nat.reduceBEq, Nat.zero_add, Bool.false_or, Bool.or_false, Bool.true_or, Bool.or_true, Bool.false_and, Bool.and_false, Bool.true_and, Bool.and_true, true_and, and_true, true_or, or_true, eq_self, Nat.le_refl, List.getElem?_cons_succ, List.getElem?_cons_zero, List.set_cons_succ, List.set_cons_zero, zk_0, zk_1, zk_2, zk_3, zk_4, zq_1, zq_2, Option.isSome_some, Option.getD_some, Option.toList_some, Option.toList_none, List.cons_append, List.nil_append, nI_1, true_implies, false_implies, not_true_eq_false, not_false_eq_true, zn_10, Int32.reduceLT, Int32.reduceLE, implies_true, and_self]
          refine zJ_wide (k' := 2 * (i + 1 - N 4 d)) (n' := 1521 * (i + 1 - N 4 d)) (by omega) (by omega) ?_
          refine ih (i + 1) _ rl2 A2 (by omega) (by omega) ?_ (zFr_t hf2 (zFr_u lk10)) hA2
          rw [← hS3, hS2]
          have := rep_known (F := S2 1 i) hr2 d8 hiK f7.2.2
          rw [hS2] at this
          exact this
        refine zJ_callV (As := []) (rest := [.int (nI i)]) C d_V_goOffLine_20 (c_L_size l D dA z M1 (A 6 d) _ _ mo6 s1.1) k_V_33 n_L_size v_L_size s1.1 rfl rfl ⟨(Nat.le_of_ble_eq_true rfl), (Nat.le_of_ble_eq_true rfl)⟩ ⟨by show _ + 0 ≤ MC; omega, by show _ + 0 ≤ MS; omega⟩ rfl (Nat.le_of_ble_eq_true rfl) ?_
        rintro v M9 ⟨e0, rfl⟩; have e0 := e0.symm; subst e0
        have hle4 : (zOp S N d i).2 4 d ≤ 60 := by
          have := c9.2.2.2.2.2
          have e := zOp_N (S := S) (N := N) (d := d) (t := 0) (i := 0) (by decide) i
          omega
        have eS1 : (zOp S N d i).1 1 i = S 1 i := zOp_S (by decide) (by decide) i
        refine zgo (cut := fun q => q == 41) 60 C lk_V hR ?_
        simp only [zs_iconst, zs_iload_n, zs_aload_n, zs_istore_n, zs_dup0, zs_dup1, zs_pop0, zs_pop1, zs_pop2, zs_dup2, zs_icmp_lt, zs_icmp_ge, zs_goto, zs_iinc, zs_get, zs_put, zs_return, zx_iv, zx_is, zx_it, zx_nw, zx_na, zx_an, zx_cc, zx_gs, zx_as, zx_ae, zx_ac, zx_at, zr_seg, zr_t, zr_f, zr_tp, zr_fp, zr_lg, zr_lr, zr_lr0, zr_wi, zr_wr, zr_wn, zr_wl, zr_vo, zr_so, zr_sI, zr_sL, zr_sA, zr_sN, zr_in, zr_rd, zr_wr2, zr_kf, zr_k0, zr_k1, zr_k2, zr_k3, zr_k3n, zr_k10, zr_k11, zr_k12, zr_k13, zr_k13n, zr_ai, zr_af, zr_aw, zr_aL, zr_Lf, zr_Lw, zr_l2, zr_l20, zr_al, zr_an, zr_aq, zr_ag, zr_rfs, zr_rfn, zr_r1, zr_r2, zr_w0, zr_w1, zr_tl, zr_40, zr_41, zr_42, zr_43, d_V_goOffLine_0, d_V_goOffLine_1, ci_1, d_V_goOffLine_2, fl_V_7, d_V_goOffLine_5, ci_0, d_V_goOffLine_6, d_V_goOffLine_7, d_V_goOffLine_8, d_V_goOffLine_9, d_V_goOffLine_12, zt_12_60, zo_12_60, d_V_goOffLine_15, d_V_goOffLine_16, d_V_goOffLine_17, fl_V_24, d_V_goOffLine_20, d_V_goOffLine_23, zt_23_18, zo_23_18, d_V_goOffLine_26, d_V_goOffLine_27, d_V_goOffLine_30, d_V_goOffLine_33, d_V_goOffLine_34, d_V_goOffLine_37, d_V_goOffLine_40, d_V_goOffLine_41, d_V_goOffLine_42, d_V_goOffLine_45, d_V_goOffLine_46, d_V_goOffLine_49, d_V_goOffLine_52, d_V_goOffLine_53, d_V_goOffLine_54, d_V_goOffLine_57, d_V_goOffLine_60, fl_V_48, d_V_goOffLine_63, d_V_goOffLine_66, d_V_goOffLine_69, zt_69_m62, zo_69_m62, d_V_goOffLine_72, za_0, za_i, za_r, za_n, za_l, zu_s, zu_u, Nat.reduceAdd, Nat.reduceLT, Nat.reduceBEq, Nat.zero_add, Bool.false_or, Bool.or_false, Bool.true_or, Bool.or_true, Bool.false_and, Bool.and_false, Bool.true_and, Bool.and_true, true_and, and_true, true_or, or_true, eq_self, Nat.le_refl, List.getElem?_cons_succ, List.getElem?_cons_zero, List.set_cons_succ, List.set_cons_zero, zk_0, zk_1, zk_2, zk_3, zk_4, zq_1, zq_2, Option.isSome_some, Option.getD_some, Option.toList_some, Option.toList_none, List.cons_append, List.nil_append, c4u, true_implies, false_implies, not_true_eq_false, not_false_eq_true, zn_10, Int32.reduceLT, Int32.reduceLE, implies_true, and_self]
        refine ⟨fun w => ?_, fun w => ?_⟩
        · have hi4 : i < (zOp S N d i).2 4 d := (nI_ltI (by omega) (by omega)).mp w
          have eN : (zOp S N d (i + 1)).2 = (zOp S N d i).2 := by
            show (if (zOp S N d i).2 4 d ≤ i then _ else _) = _
            rw [if_neg (by omega)]
          refine copy M1 rl1 A1 (zOp S N d i).1 _ _ (by rw [eN]; exact hr1) hf1 hA1 eS1 rfl (by omega) (by omega)
        · have hi4 : (zOp S N d i).2 4 d = i := by
            have a : ¬ i < (zOp S N d i).2 4 d := fun u => w (nI_lt u (by omega))
            rw [e4] at a ⊢
            split
            · rfl
            · rename_i h
              rw [if_neg h] at a
              omega
          have hNi : N 4 d ≤ i := by
            rw [e4] at hi4
            split at hi4
            · assumption
            · omega
          have eN : (zOp S N d (i + 1)).2 = zN1 (zOp S N d i).2 4 d ((zOp S N d i).2 4 d + 1) := by
            show (if (zOp S N d i).2 4 d ≤ i then zN1 (zOp S N d i).2 4 d (i + 1) else _) = _
            rw [if_pos (by omega), hi4]
          have mL : M1 (A 6 d) ≠ none := by rw [s1.1]; exact fun u => by cases u
          refine zJ_new [.int 0, .int 0, .int 0, .int 0, .int 0, .int 0, .int 0, .int 0, .int 0, .int 0, .int 0] C q_F d_V_goOffLine_30 (by decide +kernel) (by decide) ⟨by show 2 * (i - N 4 d) + 1 ≤ MC; omega, by show 1521 * (i - N 4 d) + 11 ≤ MS; omega⟩ (fun o f1 hz1 => ?_)
          refine zgo (cut := fun q => q == 41) 60 C lk_V hR ?_
          simp only [zs_iconst, zs_iload_n, zs_aload_n, zs_istore_n, zs_dup0, zs_dup1, zs_pop0, zs_pop1, zs_pop2, zs_dup2, zs_icmp_lt, zs_icmp_ge, zs_goto, zs_iinc, zs_get, zs_put, zs_return, zx_iv, zx_is, zx_it, zx_nw, zx_na, zx_an, zx_cc, zx_gs, zx_as, zx_ae, zx_ac, zx_at, zr_seg, zr_t, zr_f, zr_tp, zr_fp, zr_lg, zr_lr, zr_lr0, zr_wi, zr_wr, zr_wn, zr_wl, zr_vo, zr_so, zr_sI, zr_sL, zr_sA, zr_sN, zr_in, zr_rd, zr_wr2, zr_kf, zr_k0, zr_k1, zr_k2, zr_k3, zr_k3n, zr_k10, zr_k11, zr_k12, zr_k13, zr_k13n, zr_ai, zr_af, zr_aw, zr_aL, zr_Lf, zr_Lw, zr_l2, zr_l20, zr_al, zr_an, zr_aq, zr_ag, zr_rfs, zr_rfn, zr_r1, zr_r2, zr_w0, zr_w1, zr_tl, zr_40, zr_41, zr_42, zr_43, d_V_goOffLine_0, d_V_goOffLine_1, ci_1, d_V_goOffLine_2, fl_V_7, d_V_goOffLine_5, ci_0, d_V_goOffLine_6, d_V_goOffLine_7, d_V_goOffLine_8, d_V_goOffLine_9, d_V_goOffLine_12, zt_12_60, zo_12_60, d_V_goOffLine_15, d_V_goOffLine_16, d_V_goOffLine_17, fl_V_24, d_V_goOffLine_20, d_V_goOffLine_23, zt_23_18, zo_23_18, d_V_goOffLine_26, d_V_goOffLine_27, d_V_goOffLine_30, d_V_goOffLine_33, d_V_goOffLine_34, d_V_goOffLine_37, d_V_goOffLine_40, d_V_goOffLine_41, d_V_goOffLine_42, d_V_goOffLine_45, d_V_goOffLine_46, d_V_goOffLine_49, d_V_goOffLine_52, d_V_goOffLine_53, d_V_goOffLine_54, d_V_goOffLine_57, d_V_goOffLine_60, fl_V_48, d_V_goOffLine_63, d_V_goOffLine_66, d_V_goOffLine_69, zt_69_m62, zo_69_m62, d_V_goOffLine_72, za_0, za_i, za_r, za_n, za_l, zu_s, zu_u, Nat.reduceAdd, Nat.reduceLT, Nat.reduceBEq, Nat.zero_add, Bool.false_or, Bool.or_false, Bool.true_or, Bool.or_true, Bool.false_and, Bool.and_false, Bool.true_and, Bool.and_true, true_and, and_true, true_or, or_true, eq_self, Nat.le_refl, List.getElem?_cons_succ, List.getElem?_cons_zero, List.set_cons_succ, List.set_cons_zero, zk_0, zk_1, zk_2, zk_3, zk_4, zq_1, zq_2, Option.isSome_some, Option.getD_some, Option.toList_some, Option.toList_none, List.cons_append, List.nil_append, true_implies, false_implies, not_true_eq_false, not_false_eq_true, zn_10, Int32.reduceLT, Int32.reduceLE, implies_true, and_self]
          refine zJ_callIN (As := []) (rest := [.ref o, .ref (A 6 d)]) C d_V_goOffLine_34 (c_F_init l D dA z (zu M1 o (fA (fun _ => 0))) o (fun _ => 0) (zu_s _ _ _)) k_V_43 n_F_init rfl ⟨(Nat.le_of_ble_eq_true rfl), (Nat.le_of_ble_eq_true rfl)⟩ ⟨by show 2 * (i - N 4 d) + 1 + 0 ≤ MC; omega, by show 1521 * (i - N 4 d) + 11 + 0 ≤ MS; omega⟩ rfl (Nat.le_of_ble_eq_true rfl) ?_
          rintro v M9 ⟨rfl, rfl⟩
          rw [zu_u]
          refine zgo (cut := fun q => q == 41) 60 C lk_V hR ?_
          simp only [zs_iconst, zs_iload_n, zs_aload_n, zs_istore_n, zs_dup0, zs_dup1, zs_pop0, zs_pop1, zs_pop2, zs_dup2, zs_icmp_lt, zs_icmp_ge, zs_goto, zs_iinc, zs_get, zs_put, zs_return, zx_iv, zx_is, zx_it, zx_nw, zx_na, zx_an, zx_cc, zx_gs, zx_as, zx_ae, zx_ac, zx_at, zr_seg, zr_t, zr_f, zr_tp, zr_fp, zr_lg, zr_lr, zr_lr0, zr_wi, zr_wr, zr_wn, zr_wl, zr_vo, zr_so, zr_sI, zr_sL, zr_sA, zr_sN, zr_in, zr_rd, zr_wr2, zr_kf, zr_k0, zr_k1, zr_k2, zr_k3, zr_k3n, zr_k10, zr_k11, zr_k12, zr_k13, zr_k13n, zr_ai, zr_af, zr_aw, zr_aL, zr_Lf, zr_Lw, zr_l2, zr_l20, zr_al, zr_an, zr_aq, zr_ag, zr_rfs, zr_rfn, zr_r1, zr_r2, zr_w0, zr_w1, zr_tl, zr_40, zr_41, zr_42, zr_43, d_V_goOffLine_0, d_V_goOffLine_1, ci_1, d_V_goOffLine_2, fl_V_7, d_V_goOffLine_5, ci_0, d_V_goOffLine_6, d_V_goOffLine_7, d_V_goOffLine_8, d_V_goOffLine_9, d_V_goOffLine_12, zt_12_60, zo_12_60, d_V_goOffLine_15, d_V_goOffLine_16, d_V_goOffLine_17, fl_V_24, d_V_goOffLine_20, d_V_goOffLine_23, zt_23_18, zo_23_18, d_V_goOffLine_26, d_V_goOffLine_27, d_V_goOffLine_30, d_V_goOffLine_33, d_V_goOffLine_34, d_V_goOffLine_37, d_V_goOffLine_40, d_V_goOffLine_41, d_V_goOffLine_42, d_V_goOffLine_45, d_V_goOffLine_46, d_V_goOffLine_49, d_V_goOffLine_52, d_V_goOffLine_53, d_V_goOffLine_54, d_V_goOffLine_57, d_V_goOffLine_60, fl_V_48, d_V_goOffLine_63, d_V_goOffLine_66, d_V_goOffLine_69, zt_69_m62, zo_69_m62, d_V_goOffLine_72, za_0, za_i, za_r, za_n, za_l, zu_s, zu_u, Nat.reduceAdd, Nat.reduceLT, Nat.reduceBEq, Nat.zero_add, Bool.false_or, Bool.or_false, Bool.true_or, Bool.or_true, Bool.false_and, Bool.and_false, Bool.true_and, Bool.and_true, true_and, and_true, true_or, or_true, eq_self, Nat.le_refl, List.getElem?_cons_succ, List.getElem?_cons_zero, List.set_cons_succ, List.set_cons_zero, zk_0, zk_1, zk_2, zk_3, zk_4, zq_1, zq_2, Option.isSome_some, Option.getD_some, Option.toList_some, Option.toList_none, List.cons_append, List.nil_append, true_implies, false_implies, not_true_eq_false, not_false_eq_true, zn_10, Int32.reduceLT, Int32.reduceLE, implies_true, and_self]
          have hk4 := zu_x (e := fA f0) f1
          have hr5 := rep_ext hr1 hk4
          obtain ⟨cap7, g7, mo7, x1, x2, x3, x4, x5⟩ := (hr5.2.2.2.2.2.2.2.2.1 d d8).2.2.2.1
          rw [hA1 6 d (by decide) (by decide)] at x1 x3
          refine zJ_callV (As := [.ref o]) (rest := []) C d_V_goOffLine_37 (c_L_add1 l D dA z (zu M1 o (fA f0)) (A 6 d) _ _ cap7 o 5 _ _ g7 mo7 x1 (by omega) (zel_of (ci := 5) x5 (fun i hi => ⟨_, (hr5.2.2.2.2.2.2.2.2.2.2.1 d i d8 hi).1.1⟩) rfl (by decide +kernel)) (zu_s _ _ _) rfl (by decide) (by decide +kernel)) k_V_44 n_L_add1 v_L_add1 x1.1 rfl rfl ⟨(Nat.le_of_ble_eq_true rfl), (Nat.le_of_ble_eq_true rfl)⟩ ⟨by show 2 * (i - N 4 d) + 1 + 1 ≤ MC; omega, by show 1521 * (i - N 4 d) + 11 + (cap7 + cap7 / 2 + 10) ≤ MS; omega⟩ rfl (Nat.le_of_ble_eq_true rfl) ?_
          rintro v M5 ⟨rfl, ed', cap', g', w1, w2, w3, w4, w5, w6, w7, w8⟩
          have e3 : ed' ≠ o := fun u => by
            rcases w4 with ⟨w, w'⟩ | w
            · rcases x1.2 with ⟨_, _, a⟩ | ⟨a, _⟩
              · omega
              · rw [← w, u, zu_s] at a; cases a
            · rw [u, zu_s] at w; cases w
          have nL : A 6 d ≠ o := fun u => mL (by rw [u]; exact f1)
          have hA6 := hA1 6 d (by decide) (by decide)
          rw [← hA6] at w1 w2 w8 nL
          obtain ⟨rl', A', g1, g2, g3, g4, _⟩ := rep_kn (M' := M5) (q := o) (d0 := d) (R0 := f0) hr1 d8 (by rw [hi4, zOp_N (by decide)]; exact hlt) (Or.inl rfl) f1 w1 (by rw [w8 o (fun u => nL u.symm) (fun u => e3 u.symm), zu_s]) (by
            rcases w4 with ⟨w, w'⟩ | w
            · refine Or.inl ⟨?_, ?_⟩
              · rw [w]
                rcases x4 with a | a
                · omega
                · exact a
              · rw [w]
                rcases x1.2 with ⟨_, _, a⟩ | ⟨a, _⟩
                · omega
                · rw [zu_n (by rw [← w]; exact e3)] at a
                  rw [a]; exact fun u => by cases u
            · rw [zu_n e3] at w
              exact Or.inr ⟨w, e3⟩) w2 (by rcases w5 with w | w <;> omega) (fun i hi => by rw [w6 i hi]; exact x5 i hi) w7 (fun x0 a b c1 => by rw [w8 x0 a b, zu_n c1])
          refine zgo (cut := fun q => q == 41) 60 C lk_V hR ?_
          simp only [zs_iconst, zs_iload_n, zs_aload_n, zs_istore_n, zs_dup0, zs_dup1, zs_pop0, zs_pop1, zs_pop2, zs_dup2, zs_icmp_lt, zs_icmp_ge, zs_goto, zs_iinc, zs_get, zs_put, zs_return, zx_iv, zx_is, zx_it, zx_nw, zx_na, zx_an, zx_cc, zx_gs, zx_as, zx_ae, zx_ac, zx_at, zr_seg, zr_t, zr_f, zr_tp, zr_fp, zr_lg, zr_lr, zr_lr0, zr_wi, zr_wr, zr_wn, zr_wl, zr_vo, zr_so, zr_sI, zr_sL, zr_sA, zr_sN, zr_in, zr_rd, zr_wr2, zr_kf, zr_k0, zr_k1, zr_k2, zr_k3, zr_k3n, zr_k10, zr_k11, zr_k12, zr_k13, zr_k13n, zr_ai, zr_af, zr_aw, zr_aL, zr_Lf, zr_Lw, zr_l2, zr_l20, zr_al, zr_an, zr_aq, zr_ag, zr_rfs, zr_rfn, zr_r1, zr_r2, zr_w0, zr_w1, zr_tl, zr_40, zr_41, zr_42, zr_43, d_V_goOffLine_0, d_V_goOffLine_1, ci_1, d_V_goOffLine_2, fl_V_7, d_V_goOffLine_5, ci_0, d_V_goOffLine_6, d_V_goOffLine_7, d_V_goOffLine_8, d_V_goOffLine_9, d_V_goOffLine_12, zt_12_60, zo_12_60, d_V_goOffLine_15, d_V_goOffLine_16, d_V_goOffLine_17, fl_V_24, d_V_goOffLine_20, d_V_goOffLine_23, zt_23_18, zo_23_18, d_V_goOffLine_26, d_V_goOffLine_27, d_V_goOffLine_30, d_V_goOffLine_33, d_V_goOffLine_34, d_V_goOffLine_37, d_V_goOffLine_40, d_V_goOffLine_41, d_V_goOffLine_42, d_V_goOffLine_45, d_V_goOffLine_46, d_V_goOffLine_49, d_V_goOffLine_52, d_V_goOffLine_53, d_V_goOffLine_54, d_V_goOffLine_57, d_V_goOffLine_60, fl_V_48, d_V_goOffLine_63, d_V_goOffLine_66, d_V_goOffLine_69, zt_69_m62, zo_69_m62, d_V_goOffLine_72, za_0, za_i, za_r, za_n, za_l, zu_s, zu_u, Nat.reduceAdd, Nat.reduceLT, Nat.reduceBEq, Nat.zero_add, Bool.false_or, Bool.or_false, Bool.true_or, Bool.or_true, Bool.false_and, Bool.and_false, Bool.true_and, Bool.and_true, true_and, and_true, true_or, or_true, eq_self, Nat.le_refl, List.getElem?_cons_succ, List.getElem?_cons_zero, List.set_cons_succ, List.set_cons_zero, zk_0, zk_1, zk_2, zk_3, zk_4, zq_1, zq_2, Option.isSome_some, Option.getD_some, Option.toList_some, Option.toList_none, List.cons_append, List.nil_append, true_implies, false_implies, not_true_eq_false, not_false_eq_true, zn_10, Int32.reduceLT, Int32.reduceLE, implies_true, and_self]
          refine copy M5 rl' A' (zS (zOp S N d i).1 6 (100 * d + (zOp S N d i).2 4 d) f0) _ _ (by rw [eN]; exact g1) (zFr_t hf1 g2) (fun t i a b => by rw [g3 t i a b, hA1 t i a b]) (by rw [zS_t (by decide)]; exact eS1) (by rw [hi4, zS_zS]; rfl) (by omega) (by omega)
  refine zgo (cut := fun q => q == 7) 60 C lk_V hR ?_
  simp only [zs_iconst, zs_iload_n, zs_aload_n, zs_istore_n, zs_dup0, zs_dup1, zs_pop0, zs_pop1, zs_pop2, zs_dup2, zs_icmp_lt, zs_icmp_ge, zs_goto, zs_iinc, zs_get, zs_put, zs_return, zx_iv, zx_is, zx_it, zx_nw, zx_na, zx_an, zx_cc, zx_gs, zx_as, zx_ae, zx_ac, zx_at, zr_seg, zr_t, zr_f, zr_tp, zr_fp, zr_lg, zr_lr, zr_lr0, zr_wi, zr_wr, zr_wn, zr_wl, zr_vo, zr_so, zr_sI, zr_sL, zr_sA, zr_sN, zr_in, zr_rd, zr_wr2, zr_kf, zr_k0, zr_k1, zr_k2, zr_k3, zr_k3n, zr_k10, zr_k11, zr_k12, zr_k13, zr_k13n, zr_ai, zr_af, zr_aw, zr_aL, zr_Lf, zr_Lw, zr_l2, zr_l20, zr_al, zr_an, zr_aq, zr_ag, zr_rfs, zr_rfn, zr_r1, zr_r2, zr_w0, zr_w1, zr_tl, zr_40, zr_41, zr_42, zr_43, d_V_goOffLine_0, d_V_goOffLine_1, ci_1, d_V_goOffLine_2, fl_V_7, d_V_goOffLine_5, ci_0, d_V_goOffLine_6, d_V_goOffLine_7, d_V_goOffLine_8, d_V_goOffLine_9, d_V_goOffLine_12, zt_12_60, zo_12_60, d_V_goOffLine_15, d_V_goOffLine_16, d_V_goOffLine_17, fl_V_24, d_V_goOffLine_20, d_V_goOffLine_23, zt_23_18, zo_23_18, d_V_goOffLine_26, d_V_goOffLine_27, d_V_goOffLine_30, d_V_goOffLine_33, d_V_goOffLine_34, d_V_goOffLine_37, d_V_goOffLine_40, d_V_goOffLine_41, d_V_goOffLine_42, d_V_goOffLine_45, d_V_goOffLine_46, d_V_goOffLine_49, d_V_goOffLine_52, d_V_goOffLine_53, d_V_goOffLine_54, d_V_goOffLine_57, d_V_goOffLine_60, fl_V_48, d_V_goOffLine_63, d_V_goOffLine_66, d_V_goOffLine_69, zt_69_m62, zo_69_m62, d_V_goOffLine_72, za_0, za_i, za_r, za_n, za_l, zu_s, zu_u, Nat.reduceAdd, Nat.reduceLT, Nat.reduceBEq, Nat.zero_add, Bool.false_or, Bool.or_false, Bool.true_or, Bool.or_true, Bool.false_and, Bool.and_false, Bool.true_and, Bool.and_true, true_and, and_true, true_or, or_true, eq_self, Nat.le_refl, List.getElem?_cons_succ, List.getElem?_cons_zero, List.set_cons_succ, List.set_cons_zero, zk_0, zk_1, zk_2, zk_3, zk_4, zq_1, zq_2, Option.isSome_some, Option.getD_some, Option.toList_some, Option.toList_none, List.cons_append, List.nil_append, a4u, true_implies, false_implies, not_true_eq_false, not_false_eq_true, zn_10, Int32.reduceLT, Int32.reduceLE, implies_true, and_self]
  have h0 : 2 * (0 - N 4 d) = 0 := by omega
  have h01 : 1521 * (0 - N 4 d) = 0 := by omega
  have := loop (N 0 0) 0 (zu M (A 4 d) (zDv 1 (T d) (A 5 d) (A 6 d))) rl A (by omega) (by omega) (by
    have := rep_dev (x := 1) (t := T d) hr d8 (Or.inr rfl)
    rw [show va_up T d (T d) = T from by
      funext i
      by_cases e : i = d
      · subst e; exact va_up_self _ _ _
      · exact va_up_ne _ _ e] at this
    exact this) (zFr_u l4) (fun _ _ _ _ => rfl)
  rw [h0, h01, nI_0] at this
  exact this
def zCut (S : Nat → Nat → Nat → Int32) (N : Nat → Nat → Nat) (dev on v : Int32) (S' : Nat → Nat → Nat → Int32) (N' : Nat → Nat → Nat) : Prop :=
  (¬ (0 ≤ dev ∧ dev < 8) ∧ v = 0 ∧ S' = S ∧ N' = N) ∨ ∃ d, d < 8 ∧ dev = nI d ∧ ((S 4 d 0 = on ∧ v = 0 ∧ S' = S ∧ N' = N) ∨
    (S 4 d 0 ≠ on ∧ on ≠ 0 ∧ v = 1 ∧ S' = (zOp S N d (N 0 0)).1 ∧ N' = (zOp S N d (N 0 0)).2) ∨ (S 4 d 0 ≠ on ∧ on = 0 ∧ v = 1 ∧ S' = zS S 4 d (fun _ => 0) ∧ N' = zN1 N 3 d 0))
set_option maxHeartbeats 4000000 in
set_option maxRecDepth 100000 in
theorem c_D_cut (l : Launch) (D : va_G) (dA : Nat → ClassId) (z : Nat) (M : zVw) (rl : Nat → Nat) (A : Nat → Nat → Nat) (S : Nat → Nat → Nat → Int32) (N : Nat → Nat → Nat) (T : Nat → Int64) (dev on : Int32) (MC MS : Nat) (hMC : ∀ d, d < 8 → dev = nI d → S 4 d 0 ≠ on → on ≠ 0 → 2 * (N 0 0 - N 4 d) ≤ MC) (hMS : ∀ d, d < 8 → dev = nI d → S 4 d 0 ≠ on → on ≠ 0 → 1521 * (N 0 0 - N 4 d) ≤ MS) (hr : zRep M rl dA A S N T) : zMet l y_D_cut b_D_cut 3 (some .boolean) 8 193 MC MS D dA z [.ref (A 0 0), .int dev, .int on] M (fun v M' => ∃ r S' N' rl' A', v = some (.int r) ∧ zRep M' rl' dA A' S' N' T ∧ zFr M rl M' rl' ∧ A' 0 0 = A 0 0 ∧ zCut S N dev on r S' N') := by
  have hM2 := hr.1.1
  unfold zDo at hM2
  refine z_of 2 false (by decide) (fun h => by first | rfl | cases h) (Nat.le_of_ble_eq_true rfl) trivial ?_
  intro p e s m args below meth c C hR
  refine zgo (cut := fun _ => false) 60 C lk_D hR ?_
  simp only [zs_iconst, zs_iload_n, zs_aload_n, zs_if_eq, zs_icmp_ne, zs_goto, zs_get, zs_aaload, zs_ireturn, zx_iv, zx_is, zx_it, zx_nw, zx_na, zx_an, zx_cc, zx_gs, zx_as, zx_ae, zx_ac, zx_at, zr_seg, zr_t, zr_f, zr_tp, zr_fp, zr_lg, zr_lr, zr_lr0, zr_wi, zr_wr, zr_wn, zr_wl, zr_vo, zr_so, zr_sI, zr_sL, zr_sA, zr_sN, zr_in, zr_rd, zr_wr2, zr_kf, zr_k0, zr_k1, zr_k2, zr_k3, zr_k3n, zr_k10, zr_k11, zr_k12, zr_k13, zr_k13n, zr_ai, zr_af, zr_aw, zr_aL, zr_Lf, zr_Lw, zr_l2, zr_l20, zr_al, zr_an, zr_aq, zr_ag, zr_rfs, zr_rfn, zr_r1, zr_r2, zr_w0, zr_w1, zr_tl, zr_40, zr_41, zr_42, zr_43, d_D_cut_0, d_D_cut_1, d_D_cut_4, zt_4_16, zo_4_16, d_D_cut_7, d_D_cut_8, fl_D_28, d_D_cut_11, d_D_cut_12, d_D_cut_13, fl_D_65, d_D_cut_16, d_D_cut_17, zt_17_5, zo_17_5, d_D_cut_20, ci_0, d_D_cut_21, d_D_cut_22, d_D_cut_23, zt_23_19, zo_23_19, d_D_cut_26, d_D_cut_27, d_D_cut_30, d_D_cut_31, d_D_cut_32, d_D_cut_33, fl_D_12, d_D_cut_36, d_D_cut_39, zt_39_12, zo_39_12, d_D_cut_42, d_D_cut_43, d_D_cut_46, d_D_cut_47, d_D_cut_48, d_D_cut_51, ci_1, d_D_cut_52, za_0, za_i, za_r, za_n, za_l, zu_s, zu_u, Nat.reduceAdd, Nat.reduceLT, Nat.reduceBEq, Nat.zero_add, Bool.false_or, Bool.or_false, Bool.true_or, Bool.or_true, Bool.false_and, Bool.and_false, Bool.true_and, Bool.and_true, true_and, and_true, true_or, or_true, eq_self, Nat.le_refl, List.getElem?_cons_succ, List.getElem?_cons_zero, List.set_cons_succ, List.set_cons_zero, zk_0, zk_1, zk_2, zk_3, zk_4, zq_1, zq_2, Option.isSome_some, Option.getD_some, Option.toList_some, Option.toList_none, List.cons_append, List.nil_append, true_implies, false_implies, not_true_eq_false, not_false_eq_true, zn_10, Int32.reduceLT, Int32.reduceLE, implies_true, and_self]
  refine zJ_callS (As := [.int dev]) (rest := []) C d_D_cut_1 (c_D_isDevice l D dA z M dev) k_D_62 s_D_isDevice ⟨(Nat.le_of_ble_eq_true rfl), (Nat.le_of_ble_eq_true rfl)⟩ ⟨by show 0 + 0 ≤ MC; omega, by show 0 + 0 ≤ MS; omega⟩ rfl (Nat.le_of_ble_eq_true rfl) ?_
  rintro v M9 ⟨e0, rfl⟩; have e0 := e0.symm; subst e0
  by_cases hd : 0 ≤ dev ∧ dev < 8
  · rw [zb_t hd]
    obtain ⟨d, d8, ed⟩ : ∃ d, d < 8 ∧ dev = nI d := by
      obtain ⟨d, _, d2⟩ := nI_of (x := dev) (by clear hR C; (simp only [Int32.lt_iff_toInt_lt, Int32.le_iff_toInt_le, ← Int32.toInt_inj, Int32.reduceToInt] at *; omega))
      subst d2
      exact ⟨d, (nI_ltI (b := 8) (by omega) (by omega)).mp hd.2, rfl⟩
    have a9 := (hr.2.2.2.2.2.2.2.2.1 d d8)
    obtain ⟨g6, h6, h6b⟩ := hr.2.2.2.2.2.1
    have h6u := h6.1
    have hgd := h6b d d8
    have a4 := a9.1.1
    have a4u := a4
    unfold zDv at a4u
    have hin : vp_in dev 8 := by rw [ed]; exact vp_in_nI d8 (by omega)
    have ecl : dev.toNatClampNeg = d := by rw [ed]; exact nI_clamp (by omega)
    refine zgo (cut := fun _ => false) 60 C lk_D hR ?_
    simp only [zs_iconst, zs_iload_n, zs_aload_n, zs_if_eq, zs_icmp_ne, zs_goto, zs_get, zs_aaload, zs_ireturn, zx_iv, zx_is, zx_it, zx_nw, zx_na, zx_an, zx_cc, zx_gs, zx_as, zx_ae, zx_ac, zx_at, zr_seg, zr_t, zr_f, zr_tp, zr_fp, zr_lg, zr_lr, zr_lr0, zr_wi, zr_wr, zr_wn, zr_wl, zr_vo, zr_so, zr_sI, zr_sL, zr_sA, zr_sN, zr_in, zr_rd, zr_wr2, zr_kf, zr_k0, zr_k1, zr_k2, zr_k3, zr_k3n, zr_k10, zr_k11, zr_k12, zr_k13, zr_k13n, zr_ai, zr_af, zr_aw, zr_aL, zr_Lf, zr_Lw, zr_l2, zr_l20, zr_al, zr_an, zr_aq, zr_ag, zr_rfs, zr_rfn, zr_r1, zr_r2, zr_w0, zr_w1, zr_tl, zr_40, zr_41, zr_42, zr_43, d_D_cut_0, d_D_cut_1, d_D_cut_4, zt_4_16, zo_4_16, d_D_cut_7, d_D_cut_8, fl_D_28, d_D_cut_11, d_D_cut_12, d_D_cut_13, fl_D_65, d_D_cut_16, d_D_cut_17, zt_17_5, zo_17_5, d_D_cut_20, ci_0, d_D_cut_21, d_D_cut_22, d_D_cut_23, zt_23_19, zo_23_19, d_D_cut_26, d_D_cut_27, d_D_cut_30, d_D_cut_31, d_D_cut_32, d_D_cut_33, fl_D_12, d_D_cut_36, d_D_cut_39, zt_39_12, zo_39_12, d_D_cut_42, d_D_cut_43, d_D_cut_46, d_D_cut_47, d_D_cut_48, d_D_cut_51, ci_1, d_D_cut_52, za_0, za_i, za_r, za_n, za_l, zu_s, zu_u, Nat.reduceAdd, Nat.reduceLT, Nat.reduceBEq, Nat.zero_add, Bool.false_or, Bool.or_false, Bool.true_or, Bool.or_true, Bool.false_and, Bool.and_false, Bool.true_and, Bool.and_true, true_and, and_true, true_or, or_true, eq_self, Nat.le_refl, List.getElem?_cons_succ, List.getElem?_cons_zero, List.set_cons_succ, List.set_cons_zero, zk_0, zk_1, zk_2, zk_3, zk_4, zq_1, zq_2, Option.isSome_some, Option.getD_some, Option.toList_some, Option.toList_none, List.cons_append, List.nil_append, hM2, h6u, hin, ecl, hgd, a4u, Nat.zero_le, true_implies, false_implies, not_true_eq_false, not_false_eq_true, zn_10, Int32.reduceLT, Int32.reduceLE, implies_true, and_self]
    refine ⟨fun w => ⟨fun w2 => ?_, fun w2 => ?_⟩, fun w => ⟨0, S, N, rl, A, rfl, hr, zFr_r _ _, rfl, Or.inr ⟨d, d8, ed, Or.inl ⟨w, rfl, rfl, rfl⟩⟩⟩⟩
    · refine zJ_h100 C (fun h100 => ?_)
      obtain ⟨cap1, g1, mo1, s1, s2, s3, s4, s5⟩ := a9.2.2.1
      refine zJ_callV (As := []) (rest := []) C d_D_cut_48 (c_V_goOnLine l D dA z M (A 4 d) (A 5 d) (A 6 d) (A 7 d) _ cap1 _ mo1 (T d) g1 a4 s1 (by omega)) k_D_116 n_V_goOnLine v_V_goOnLine a4 rfl rfl ⟨(Nat.le_of_ble_eq_true rfl), (Nat.le_of_ble_eq_true rfl)⟩ ⟨by show _ + 0 ≤ MC; omega, by show _ + 0 ≤ MS; omega⟩ rfl (Nat.le_of_ble_eq_true rfl) ?_
      rintro v M2 ⟨rfl, t1, g2, t2, t3⟩
      obtain ⟨u1, u2⟩ := rep_online hr d8 t1 t2 s2 s4 t3 h100
      refine zgo (cut := fun _ => false) 60 C lk_D hR ?_
      simp only [zs_iconst, zs_iload_n, zs_aload_n, zs_if_eq, zs_icmp_ne, zs_goto, zs_get, zs_aaload, zs_ireturn, zx_iv, zx_is, zx_it, zx_nw, zx_na, zx_an, zx_cc, zx_gs, zx_as, zx_ae, zx_ac, zx_at, zr_seg, zr_t, zr_f, zr_tp, zr_fp, zr_lg, zr_lr, zr_lr0, zr_wi, zr_wr, zr_wn, zr_wl, zr_vo, zr_so, zr_sI, zr_sL, zr_sA, zr_sN, zr_in, zr_rd, zr_wr2, zr_kf, zr_k0, zr_k1, zr_k2, zr_k3, zr_k3n, zr_k10, zr_k11, zr_k12, zr_k13, zr_k13n, zr_ai, zr_af, zr_aw, zr_aL, zr_Lf, zr_Lw, zr_l2, zr_l20, zr_al, zr_an, zr_aq, zr_ag, zr_rfs, zr_rfn, zr_r1, zr_r2, zr_w0, zr_w1, zr_tl, zr_40, zr_41, zr_42, zr_43, d_D_cut_0, d_D_cut_1, d_D_cut_4, zt_4_16, zo_4_16, d_D_cut_7, d_D_cut_8, fl_D_28, d_D_cut_11, d_D_cut_12, d_D_cut_13, fl_D_65, d_D_cut_16, d_D_cut_17, zt_17_5, zo_17_5, d_D_cut_20, ci_0, d_D_cut_21, d_D_cut_22, d_D_cut_23, zt_23_19, zo_23_19, d_D_cut_26, d_D_cut_27, d_D_cut_30, d_D_cut_31, d_D_cut_32, d_D_cut_33, fl_D_12, d_D_cut_36, d_D_cut_39, zt_39_12, zo_39_12, d_D_cut_42, d_D_cut_43, d_D_cut_46, d_D_cut_47, d_D_cut_48, d_D_cut_51, ci_1, d_D_cut_52, za_0, za_i, za_r, za_n, za_l, zu_s, zu_u, Nat.reduceAdd, Nat.reduceLT, Nat.reduceBEq, Nat.zero_add, Bool.false_or, Bool.or_false, Bool.true_or, Bool.or_true, Bool.false_and, Bool.and_false, Bool.true_and, Bool.and_true, true_and, and_true, true_or, or_true, eq_self, Nat.le_refl, List.getElem?_cons_succ, List.getElem?_cons_zero, List.set_cons_succ, List.set_cons_zero, zk_0, zk_1, zk_2, zk_3, zk_4, zq_1, zq_2, Option.isSome_some, Option.getD_some, Option.toList_some, Option.toList_none, List.cons_append, List.nil_append, Nat.zero_le, true_implies, false_implies, not_true_eq_false, not_false_eq_true, zn_10, Int32.reduceLT, Int32.reduceLE, implies_true, and_self]
      exact ⟨1, _, _, rl, A, rfl, u1, u2, rfl, Or.inr ⟨d, d8, ed, Or.inr (Or.inr ⟨w, w2, rfl, rfl, rfl⟩)⟩⟩
    · refine zJ_callV (As := [.ref (A 0 1)]) (rest := []) C d_D_cut_36 (c_V_goOffLine l D dA z M rl A S N T d MC MS d8 (hMC d d8 ed w w2) (hMS d d8 ed w w2) hr) k_D_131 n_V_goOffLine v_V_goOffLine a4 rfl rfl ⟨(Nat.le_of_ble_eq_true rfl), (Nat.le_of_ble_eq_true rfl)⟩ ⟨by show 0 + MC ≤ MC; omega, by show 0 + MS ≤ MS; omega⟩ rfl (Nat.le_of_ble_eq_true rfl) ?_
      rintro v M2 ⟨rfl, rl2, A2, t1, t2, t3⟩
      refine zgo (cut := fun _ => false) 60 C lk_D hR ?_
      simp only [zs_iconst, zs_iload_n, zs_aload_n, zs_if_eq, zs_icmp_ne, zs_goto, zs_get, zs_aaload, zs_ireturn, zx_iv, zx_is, zx_it, zx_nw, zx_na, zx_an, zx_cc, zx_gs, zx_as, zx_ae, zx_ac, zx_at, zr_seg, zr_t, zr_f, zr_tp, zr_fp, zr_lg, zr_lr, zr_lr0, zr_wi, zr_wr, zr_wn, zr_wl, zr_vo, zr_so, zr_sI, zr_sL, zr_sA, zr_sN, zr_in, zr_rd, zr_wr2, zr_kf, zr_k0, zr_k1, zr_k2, zr_k3, zr_k3n, zr_k10, zr_k11, zr_k12, zr_k13, zr_k13n, zr_ai, zr_af, zr_aw, zr_aL, zr_Lf, zr_Lw, zr_l2, zr_l20, zr_al, zr_an, zr_aq, zr_ag, zr_rfs, zr_rfn, zr_r1, zr_r2, zr_w0, zr_w1, zr_tl, zr_40, zr_41, zr_42, zr_43, d_D_cut_0, d_D_cut_1, d_D_cut_4, zt_4_16, zo_4_16, d_D_cut_7, d_D_cut_8, fl_D_28, d_D_cut_11, d_D_cut_12, d_D_cut_13, fl_D_65, d_D_cut_16, d_D_cut_17, zt_17_5, zo_17_5, d_D_cut_20, ci_0, d_D_cut_21, d_D_cut_22, d_D_cut_23, zt_23_19, zo_23_19, d_D_cut_26, d_D_cut_27, d_D_cut_30, d_D_cut_31, d_D_cut_32, d_D_cut_33, fl_D_12, d_D_cut_36, d_D_cut_39, zt_39_12, zo_39_12, d_D_cut_42, d_D_cut_43, d_D_cut_46, d_D_cut_47, d_D_cut_48, d_D_cut_51, ci_1, d_D_cut_52, za_0, za_i, za_r, za_n, za_l, zu_s, zu_u, Nat.reduceAdd, Nat.reduceLT, Nat.reduceBEq, Nat.zero_add, Bool.false_or, Bool.or_false, Bool.true_or, Bool.or_true, Bool.false_and, Bool.and_false, Bool.true_and, Bool.and_true, true_and, and_true, true_or, or_true, eq_self, Nat.le_refl, List.getElem?_cons_succ, List.getElem?_cons_zero, List.set_cons_succ, List.set_cons_zero, zk_0, zk_1, zk_2, zk_3, zk_4, zq_1, zq_2, Option.isSome_some, Option.getD_some, Option.toList_some, Option.toList_none, List.cons_append, List.nil_append, Nat.zero_le, true_implies, false_implies, not_true_eq_false, not_false_eq_true, zn_10, Int32.reduceLT, Int32.reduceLE, implies_true, and_self]
      exact ⟨1, _, _, rl2, A2, rfl, t1, t2, t3 0 0 (by decide) (by decide), Or.inr ⟨d, d8, ed, Or.inr (Or.inl ⟨w, w2, rfl, rfl, rfl⟩)⟩⟩
  · rw [zb_f hd]
    refine zgo (cut := fun _ => false) 60 C lk_D hR ?_
    simp only [zs_iconst, zs_iload_n, zs_aload_n, zs_if_eq, zs_icmp_ne, zs_goto, zs_get, zs_aaload, zs_ireturn, zx_iv, zx_is, zx_it, zx_nw, zx_na, zx_an, zx_cc, zx_gs, zx_as, zx_ae, zx_ac, zx_at, zr_seg, zr_t, zr_f, zr_tp, zr_fp, zr_lg, zr_lr, zr_lr0, zr_wi, zr_wr, zr_wn, zr_wl, zr_vo, zr_so, zr_sI, zr_sL, zr_sA, zr_sN, zr_in, zr_rd, zr_wr2, zr_kf, zr_k0, zr_k1, zr_k2, zr_k3, zr_k3n, zr_k10, zr_k11, zr_k12, zr_k13, zr_k13n, zr_ai, zr_af, zr_aw, zr_aL, zr_Lf, zr_Lw, zr_l2, zr_l20, zr_al, zr_an, zr_aq, zr_ag, zr_rfs, zr_rfn, zr_r1, zr_r2, zr_w0, zr_w1, zr_tl, zr_40, zr_41, zr_42, zr_43, d_D_cut_0, d_D_cut_1, d_D_cut_4, zt_4_16, zo_4_16, d_D_cut_7, d_D_cut_8, fl_D_28, d_D_cut_11, d_D_cut_12, d_D_cut_13, fl_D_65, d_D_cut_16, d_D_cut_17, zt_17_5, zo_17_5, d_D_cut_20, ci_0, d_D_cut_21, d_D_cut_22, d_D_cut_23, zt_23_19, zo_23_19, d_D_cut_26, d_D_cut_27, d_D_cut_30, d_D_cut_31, d_D_cut_32, d_D_cut_33, fl_D_12, d_D_cut_36, d_D_cut_39, zt_39_12, zo_39_12, d_D_cut_42, d_D_cut_43, d_D_cut_46, d_D_cut_47, d_D_cut_48, d_D_cut_51, ci_1, d_D_cut_52, za_0, za_i, za_r, za_n, za_l, zu_s, zu_u, Nat.reduceAdd, Nat.reduceLT, Nat.reduceBEq, Nat.zero_add, Bool.false_or, Bool.or_false, Bool.true_or, Bool.or_true, Bool.false_and, Bool.and_false, Bool.true_and, Bool.and_true, true_and, and_true, true_or, or_true, eq_self, Nat.le_refl, List.getElem?_cons_succ, List.getElem?_cons_zero, List.set_cons_succ, List.set_cons_zero, zk_0, zk_1, zk_2, zk_3, zk_4, zq_1, zq_2, Option.isSome_some, Option.getD_some, Option.toList_some, Option.toList_none, List.cons_append, List.nil_append, Nat.zero_le, true_implies, false_implies, not_true_eq_false, not_false_eq_true, zn_10, Int32.reduceLT, Int32.reduceLE, implies_true, and_self]
    exact ⟨0, S, N, rl, A, rfl, hr, zFr_r _ _, rfl, Or.inl ⟨hd, rfl, rfl, rfl⟩⟩
