/-! THE LIST: add, clear. -/
theorem zEl_w {M : zVw} {a c0 L : Nat} {fs0 fs1 : List Value} {g : Nat → Option Nat} (h : zEl M L g) (ha : M a = some (.inr (c0, fs0))) : zEl (zu M a (.inr (c0, fs1))) L g := by
  intro i hi y hy
  obtain ⟨ci, fs, r, h1, h2⟩ := h i hi y hy
  by_cases e : y = a
  · subst e
    rw [ha] at h1
    cases h1
    exact ⟨c0, fs1, r, zu_s _ _ _, h2⟩
  · exact ⟨ci, fs, r, by rw [zu_n e]; exact h1, h2⟩
set_option maxHeartbeats 4000000 in
set_option maxRecDepth 100000 in
theorem c_L_add1 (l : Launch) (D : va_G) (dA : Nat → ClassId) (z : Nat) (M : zVw) (a ed n cap e0 ci : Nat) (fs : List Value) (r : vw_C) (g : Nat → Option Nat) (mo : Int32) (hL : zLs M dA a ed n cap g mo) (h4 : cap ≤ 20000) (hel : zEl M n g) (he : M e0 = some (.inr (ci, fs))) (hr : kc[ci]? = some r) (hci : ci ≠ 7) (hcs : Cond.castable r.1 "java/lang/Object" ∈ tx) : zMet l y_L_add1 b_L_add1 2 (some .boolean) 6 150 1 (cap + cap / 2 + 10) D dA z [.ref a, .ref e0] M (fun v M' => v = some (.int 1) ∧ zAd dA M M' a ed n cap e0 g (mo + 1)) := by
  have hA := hL.1
  have hA2 := hA
  unfold zLi at hA2
  have hea : e0 ≠ a := fun q => by rw [q, hA2] at he; cases he; exact hci rfl
  have hL1 : zLs (zu M a (zLi ed n (mo + 1))) dA a ed n cap g (mo + 1) := by
    refine ⟨zu_s _ _ _, ?_⟩
    rcases hL.2 with h | ⟨h1, h2⟩
    · exact Or.inl h
    · refine Or.inr ⟨?_, h2⟩
      have hda : ed ≠ a := fun q => by rw [q, hA] at h1; cases h1
      rw [zu_n hda]; exact h1
  refine z_of 2 false (by decide) (fun h => by first | rfl | cases h) (Nat.le_of_ble_eq_true rfl) trivial ?_
  intro p e s m args below meth c C hR
  refine zgo (cut := fun _ => false) 60 C lk_L hR ?_
  simp only [zs_iconst, zs_aload_n, zs_iadd, zs_dup0, zs_dup1, zs_dup2, zs_get, zs_put, zs_ireturn, zx_iv, zx_is, zx_it, zx_nw, zx_na, zx_an, zx_cc, zx_gs, zx_as, zx_ae, zx_ac, zx_at, zr_seg, zr_t, zr_f, zr_tp, zr_fp, zr_lg, zr_lr, zr_lr0, zr_wi, zr_wr, zr_wn, zr_wl, zr_vo, zr_so, zr_sI, zr_sL, zr_sA, zr_sN, zr_in, zr_rd, zr_wr2, zr_kf, zr_k0, zr_k1, zr_k2, zr_k3, zr_k3n, zr_k10, zr_k11, zr_k12, zr_k13, zr_k13n, zr_ai, zr_af, zr_aw, zr_aL, zr_Lf, zr_Lw, zr_l2, zr_l20, zr_al, zr_an, zr_aq, zr_ag, zr_rfs, zr_rfn, zr_r1, zr_r2, zr_w0, zr_w1, zr_tl, zr_40, zr_41, zr_42, zr_43, d_L_add1_0, d_L_add1_1, d_L_add1_2, fl_L_63, d_L_add1_5, ci_1, d_L_add1_6, d_L_add1_7, d_L_add1_10, d_L_add1_11, d_L_add1_12, d_L_add1_13, fl_L_9, d_L_add1_16, d_L_add1_17, fl_L_48, d_L_add1_20, d_L_add1_23, d_L_add1_24, za_0, za_i, za_r, za_n, za_l, zu_s, zu_u, Nat.reduceAdd, Nat.reduceLT, Nat.reduceBEq, Nat.zero_add, Bool.false_or, Bool.or_false, Bool.true_or, Bool.or_true, Bool.false_and, Bool.and_false, Bool.true_and, Bool.and_true, true_and, and_true, true_or, or_true, eq_self, Nat.le_refl, List.getElem?_cons_succ, List.getElem?_cons_zero, List.set_cons_succ, List.set_cons_zero, zk_0, zk_1, zk_2, zk_3, zk_4, zq_1, zq_2, Option.isSome_some, Option.getD_some, Option.toList_some, Option.toList_none, List.cons_append, List.nil_append, hA2]
  refine zJ_callV (As := [.ref e0, .ref ed, .int (nI n)]) (rest := []) C d_L_add1_20 (c_L_add3 l D dA z (zu M a (zLi ed n (mo + 1))) a ed n cap e0 ci fs r g (mo + 1) hL1 h4 (zEl_w hel hA2) (by rw [zu_n hea]; exact he) hr hcs) k_L_131 n_L_add3 v_L_add3 (zu_s _ _ _) rfl rfl ⟨(Nat.le_of_ble_eq_true rfl), (Nat.le_of_ble_eq_true rfl)⟩ ⟨by show 0 + 1 ≤ 1; omega, by show 0 + (cap + cap / 2 + 10) ≤ cap + cap / 2 + 10; omega⟩ rfl (Nat.le_of_ble_eq_true rfl) ?_
  rintro v M' ⟨rfl, ed', cap', g', q1, q2, q3, q4, q5, q6, q7, q8⟩
  refine zgo (cut := fun _ => false) 60 C lk_L hR ?_
  simp only [zs_iconst, zs_aload_n, zs_iadd, zs_dup0, zs_dup1, zs_dup2, zs_get, zs_put, zs_ireturn, zx_iv, zx_is, zx_it, zx_nw, zx_na, zx_an, zx_cc, zx_gs, zx_as, zx_ae, zx_ac, zx_at, zr_seg, zr_t, zr_f, zr_tp, zr_fp, zr_lg, zr_lr, zr_lr0, zr_wi, zr_wr, zr_wn, zr_wl, zr_vo, zr_so, zr_sI, zr_sL, zr_sA, zr_sN, zr_in, zr_rd, zr_wr2, zr_kf, zr_k0, zr_k1, zr_k2, zr_k3, zr_k3n, zr_k10, zr_k11, zr_k12, zr_k13, zr_k13n, zr_ai, zr_af, zr_aw, zr_aL, zr_Lf, zr_Lw, zr_l2, zr_l20, zr_al, zr_an, zr_aq, zr_ag, zr_rfs, zr_rfn, zr_r1, zr_r2, zr_w0, zr_w1, zr_tl, zr_40, zr_41, zr_42, zr_43, d_L_add1_0, d_L_add1_1, d_L_add1_2, fl_L_63, d_L_add1_5, ci_1, d_L_add1_6, d_L_add1_7, d_L_add1_10, d_L_add1_11, d_L_add1_12, d_L_add1_13, fl_L_9, d_L_add1_16, d_L_add1_17, fl_L_48, d_L_add1_20, d_L_add1_23, d_L_add1_24, za_0, za_i, za_r, za_n, za_l, zu_s, zu_u, Nat.reduceAdd, Nat.reduceLT, Nat.reduceBEq, Nat.zero_add, Bool.false_or, Bool.or_false, Bool.true_or, Bool.or_true, Bool.false_and, Bool.and_false, Bool.true_and, Bool.and_true, true_and, and_true, true_or, or_true, eq_self, Nat.le_refl, List.getElem?_cons_succ, List.getElem?_cons_zero, List.set_cons_succ, List.set_cons_zero, zk_0, zk_1, zk_2, zk_3, zk_4, zq_1, zq_2, Option.isSome_some, Option.getD_some, Option.toList_some, Option.toList_none, List.cons_append, List.nil_append]
  refine ⟨ed', cap', g', q1, q2, q3, ?_, q5, q6, q7, fun x hx1 hx2 => ?_⟩
  · rcases q4 with h | h
    · exact Or.inl h
    · rw [zu_n q2] at h; exact Or.inr h
  · rw [q8 x hx1 hx2, zu_n hx1]
set_option maxHeartbeats 4000000 in
set_option maxRecDepth 100000 in
theorem c_L_clear (l : Launch) (D : va_G) (dA : Nat → ClassId) (z : Nat) (M : zVw) (a ed n cap : Nat) (g : Nat → Option Nat) (mo : Int32) (hL : zLs M dA a ed n cap g mo) (h4 : cap ≤ 20000) : zMet l y_L_clear b_L_clear 4 none 0 0 0 0 D dA z [.ref a] M (fun v M' => v = none ∧ ∃ g', zLs M' dA a ed 0 cap g' (mo + 1) ∧ ∀ x, x ≠ a → x ≠ ed → M' x = M x) := by
  have hA := hL.1
  have hA2 := hA
  unfold zLi at hA2
  have hnc : n ≤ cap := by
    rcases hL.2 with ⟨_, h, h2⟩ | ⟨_, h, _⟩
    · omega
    · exact h
  refine z_of 0 false (by decide) (fun h => by first | rfl | cases h) (Nat.le_of_ble_eq_true rfl) trivial ?_
  intro p e s m args below meth c C hR
  have loop : ∀ (k i : Nat) (M1 : zVw) (g1 : Nat → Option Nat), n - i ≤ k → i ≤ n → zLs M1 dA a ed 0 cap g1 (mo + 1) → (∀ x, x ≠ a → x ≠ ed → M1 x = M x) → zJ p l e (zR 0 0 0 0) s m args below meth c (MQ below (zQ D dA z (fun v M' => v = none ∧ ∃ g', zLs M' dA a ed 0 cap g' (mo + 1) ∧ ∀ x, x ≠ a → x ≠ ed → M' x = M x)) args s 0 0 (fun q => z ≤ q)) 4 z D 27 [(3, .int (nI i)), (2, .int (nI n)), (1, .ref ed), (0, .ref a)] [] M1 0 0 := by
    intro k
    induction k with
    | zero =>
      intro i M1 g1 h1 h2 h3 h5
      have e1 : nI n ≤ nI i := nI_le (by omega) (by omega)
      refine zgo (cut := fun q => q == 27) 60 C lk_L hR ?_
      simp only [zs_null, zs_iconst, zs_iload_n, zs_aload_n, zs_istore_n, zs_astore_n0, zs_astore_n1, zs_iadd, zs_dup0, zs_dup1, zs_dup_x10, zs_dup_x11, zs_dup2, zs_icmp_ge, zs_goto, zs_iinc, zs_get, zs_put, zs_return, zx_iv, zx_is, zx_it, zx_nw, zx_na, zx_an, zx_cc, zx_gs, zx_as, zx_ae, zx_ac, zx_at, zr_seg, zr_t, zr_f, zr_tp, zr_fp, zr_lg, zr_lr, zr_lr0, zr_wi, zr_wr, zr_wn, zr_wl, zr_vo, zr_so, zr_sI, zr_sL, zr_sA, zr_sN, zr_in, zr_rd, zr_wr2, zr_kf, zr_k0, zr_k1, zr_k2, zr_k3, zr_k3n, zr_k10, zr_k11, zr_k12, zr_k13, zr_k13n, zr_ai, zr_af, zr_aw, zr_aL, zr_Lf, zr_Lw, zr_l2, zr_l20, zr_al, zr_an, zr_aq, zr_ag, zr_rfs, zr_rfn, zr_r1, zr_r2, zr_w0, zr_w1, zr_tl, zr_40, zr_41, zr_42, zr_43, d_L_clear_0, d_L_clear_1, d_L_clear_2, fl_L_63, d_L_clear_5, ci_1, d_L_clear_6, d_L_clear_7, d_L_clear_10, d_L_clear_11, fl_L_9, d_L_clear_14, d_L_clear_15, d_L_clear_16, fl_L_48, d_L_clear_19, d_L_clear_20, d_L_clear_21, ci_0, d_L_clear_22, d_L_clear_23, d_L_clear_26, d_L_clear_27, d_L_clear_28, d_L_clear_29, zt_29_13, zo_29_13, d_L_clear_32, d_L_clear_33, d_L_clear_34, d_L_clear_35, d_L_clear_36, d_L_clear_39, zt_39_m12, zo_39_m12, d_L_clear_42, za_0, za_i, za_r, za_n, za_l, zu_s, zu_u, Nat.reduceAdd, Nat.reduceLT, Nat.reduceBEq, Nat.zero_add, Bool.false_or, Bool.or_false, Bool.true_or, Bool.or_true, Bool.false_and, Bool.and_false, Bool.true_and, Bool.and_true, true_and, and_true, true_or, or_true, eq_self, Nat.le_refl, List.getElem?_cons_succ, List.getElem?_cons_zero, List.set_cons_succ, List.set_cons_zero, zk_0, zk_1, zk_2, zk_3, zk_4, zq_1, zq_2, Option.isSome_some, Option.getD_some, Option.toList_some, Option.toList_none, List.cons_append, List.nil_append]
      exact ⟨fun _ => ⟨g1, h3, h5⟩, fun h => absurd e1 h⟩
    | succ k ih =>
      intro i M1 g1 h1 h2 h3 h5
      refine zgo (cut := fun q => q == 27) 60 C lk_L hR ?_
      simp only [zs_null, zs_iconst, zs_iload_n, zs_aload_n, zs_istore_n, zs_astore_n0, zs_astore_n1, zs_iadd, zs_dup0, zs_dup1, zs_dup_x10, zs_dup_x11, zs_dup2, zs_icmp_ge, zs_goto, zs_iinc, zs_get, zs_put, zs_return, zx_iv, zx_is, zx_it, zx_nw, zx_na, zx_an, zx_cc, zx_gs, zx_as, zx_ae, zx_ac, zx_at, zr_seg, zr_t, zr_f, zr_tp, zr_fp, zr_lg, zr_lr, zr_lr0, zr_wi, zr_wr, zr_wn, zr_wl, zr_vo, zr_so, zr_sI, zr_sL, zr_sA, zr_sN, zr_in, zr_rd, zr_wr2, zr_kf, zr_k0, zr_k1, zr_k2, zr_k3, zr_k3n, zr_k10, zr_k11, zr_k12, zr_k13, zr_k13n, zr_ai, zr_af, zr_aw, zr_aL, zr_Lf, zr_Lw, zr_l2, zr_l20, zr_al, zr_an, zr_aq, zr_ag, zr_rfs, zr_rfn, zr_r1, zr_r2, zr_w0, zr_w1, zr_tl, zr_40, zr_41, zr_42, zr_43, d_L_clear_0, d_L_clear_1, d_L_clear_2, fl_L_63, d_L_clear_5, ci_1, d_L_clear_6, d_L_clear_7, d_L_clear_10, d_L_clear_11, fl_L_9, d_L_clear_14, d_L_clear_15, d_L_clear_16, fl_L_48, d_L_clear_19, d_L_clear_20, d_L_clear_21, ci_0, d_L_clear_22, d_L_clear_23, d_L_clear_26, d_L_clear_27, d_L_clear_28, d_L_clear_29, zt_29_13, zo_29_13, d_L_clear_32, d_L_clear_33, d_L_clear_34, d_L_clear_35, d_L_clear_36, d_L_clear_39, zt_39_m12, zo_39_m12, d_L_clear_42, za_0, za_i, za_r, za_n, za_l, zu_s, zu_u, Nat.reduceAdd, Nat.reduceLT, Nat.reduceBEq, Nat.zero_add, Bool.false_or, Bool.or_false, Bool.true_or, Bool.or_true, Bool.false_and, Bool.and_false, Bool.true_and, Bool.and_true, true_and, and_true, true_or, or_true, eq_self, Nat.le_refl, List.getElem?_cons_succ, List.getElem?_cons_zero, List.set_cons_succ, List.set_cons_zero, zk_0, zk_1, zk_2, zk_3, zk_4, zq_1, zq_2, Option.isSome_some, Option.getD_some, Option.toList_some, Option.toList_none, List.cons_append, List.nil_append]
      refine ⟨fun _ => ⟨g1, h3, h5⟩, fun h => ?_⟩
      have hlt : i < n := by
        rcases Nat.lt_or_ge i n with q | q
        · exact q
        · exact absurd (nI_le q (by omega)) h
      rcases h3.2 with ⟨_, _, h6⟩ | ⟨h6, _, h7⟩
      · omega
      have hda : ed ≠ a := fun q => by rw [q, h3.1] at h6; cases h6
      refine zJ_asN C d_L_clear_35 h6 (vp_in_nI (by omega) (by omega)) ?_
      refine zgo (cut := fun q => q == 27) 60 C lk_L hR ?_
      simp only [zs_null, zs_iconst, zs_iload_n, zs_aload_n, zs_istore_n, zs_astore_n0, zs_astore_n1, zs_iadd, zs_dup0, zs_dup1, zs_dup_x10, zs_dup_x11, zs_dup2, zs_icmp_ge, zs_goto, zs_iinc, zs_get, zs_put, zs_return, zx_iv, zx_is, zx_it, zx_nw, zx_na, zx_an, zx_cc, zx_gs, zx_as, zx_ae, zx_ac, zx_at, zr_seg, zr_t, zr_f, zr_tp, zr_fp, zr_lg, zr_lr, zr_lr0, zr_wi, zr_wr, zr_wn, zr_wl, zr_vo, zr_so, zr_sI, zr_sL, zr_sA, zr_sN, zr_in, zr_rd, zr_wr2, zr_kf, zr_k0, zr_k1, zr_k2, zr_k3, zr_k3n, zr_k10, zr_k11, zr_k12, zr_k13, zr_k13n, zr_ai, zr_af, zr_aw, zr_aL, zr_Lf, zr_Lw, zr_l2, zr_l20, zr_al, zr_an, zr_aq, zr_ag, zr_rfs, zr_rfn, zr_r1, zr_r2, zr_w0, zr_w1, zr_tl, zr_40, zr_41, zr_42, zr_43, d_L_clear_0, d_L_clear_1, d_L_clear_2, fl_L_63, d_L_clear_5, ci_1, d_L_clear_6, d_L_clear_7, d_L_clear_10, d_L_clear_11, fl_L_9, d_L_clear_14, d_L_clear_15, d_L_clear_16, fl_L_48, d_L_clear_19, d_L_clear_20, d_L_clear_21, ci_0, d_L_clear_22, d_L_clear_23, d_L_clear_26, d_L_clear_27, d_L_clear_28, d_L_clear_29, zt_29_13, zo_29_13, d_L_clear_32, d_L_clear_33, d_L_clear_34, d_L_clear_35, d_L_clear_36, d_L_clear_39, zt_39_m12, zo_39_m12, d_L_clear_42, za_0, za_i, za_r, za_n, za_l, zu_s, zu_u, Nat.reduceAdd, Nat.reduceLT, Nat.reduceBEq, Nat.zero_add, Bool.false_or, Bool.or_false, Bool.true_or, Bool.or_true, Bool.false_and, Bool.and_false, Bool.true_and, Bool.and_true, true_and, and_true, true_or, or_true, eq_self, Nat.le_refl, List.getElem?_cons_succ, List.getElem?_cons_zero, List.set_cons_succ, List.set_cons_zero, zk_0, zk_1, zk_2, zk_3, zk_4, zq_1, zq_2, Option.isSome_some, Option.getD_some, Option.toList_some, Option.toList_none, List.cons_append, List.nil_append, nI_1]
      refine ih (i + 1) _ (va_up g1 (nI i).toNatClampNeg none) (by omega) (by omega) ⟨?_, Or.inr ⟨zu_s _ _ _, by omega, h7⟩⟩ (fun x hx1 hx2 => ?_)
      · rw [zu_n (fun q => hda q.symm)]; exact h3.1
      · rw [zu_n hx2]; exact h5 x hx1 hx2
  refine zgo (cut := fun q => q == 27) 60 C lk_L hR ?_
  simp only [zs_null, zs_iconst, zs_iload_n, zs_aload_n, zs_istore_n, zs_astore_n0, zs_astore_n1, zs_iadd, zs_dup0, zs_dup1, zs_dup_x10, zs_dup_x11, zs_dup2, zs_icmp_ge, zs_goto, zs_iinc, zs_get, zs_put, zs_return, zx_iv, zx_is, zx_it, zx_nw, zx_na, zx_an, zx_cc, zx_gs, zx_as, zx_ae, zx_ac, zx_at, zr_seg, zr_t, zr_f, zr_tp, zr_fp, zr_lg, zr_lr, zr_lr0, zr_wi, zr_wr, zr_wn, zr_wl, zr_vo, zr_so, zr_sI, zr_sL, zr_sA, zr_sN, zr_in, zr_rd, zr_wr2, zr_kf, zr_k0, zr_k1, zr_k2, zr_k3, zr_k3n, zr_k10, zr_k11, zr_k12, zr_k13, zr_k13n, zr_ai, zr_af, zr_aw, zr_aL, zr_Lf, zr_Lw, zr_l2, zr_l20, zr_al, zr_an, zr_aq, zr_ag, zr_rfs, zr_rfn, zr_r1, zr_r2, zr_w0, zr_w1, zr_tl, zr_40, zr_41, zr_42, zr_43, d_L_clear_0, d_L_clear_1, d_L_clear_2, fl_L_63, d_L_clear_5, ci_1, d_L_clear_6, d_L_clear_7, d_L_clear_10, d_L_clear_11, fl_L_9, d_L_clear_14, d_L_clear_15, d_L_clear_16, fl_L_48, d_L_clear_19, d_L_clear_20, d_L_clear_21, ci_0, d_L_clear_22, d_L_clear_23, d_L_clear_26, d_L_clear_27, d_L_clear_28, d_L_clear_29, zt_29_13, zo_29_13, d_L_clear_32, d_L_clear_33, d_L_clear_34, d_L_clear_35, d_L_clear_36, d_L_clear_39, zt_39_m12, zo_39_m12, d_L_clear_42, za_0, za_i, za_r, za_n, za_l, zu_s, zu_u, Nat.reduceAdd, Nat.reduceLT, Nat.reduceBEq, Nat.zero_add, Bool.false_or, Bool.or_false, Bool.true_or, Bool.or_true, Bool.false_and, Bool.and_false, Bool.true_and, Bool.and_true, true_and, and_true, true_or, or_true, eq_self, Nat.le_refl, List.getElem?_cons_succ, List.getElem?_cons_zero, List.set_cons_succ, List.set_cons_zero, zk_0, zk_1, zk_2, zk_3, zk_4, zq_1, zq_2, Option.isSome_some, Option.getD_some, Option.toList_some, Option.toList_none, List.cons_append, List.nil_append, hA2]
  refine loop n 0 _ g (by omega) (by omega) ⟨zu_s _ _ _, ?_⟩ (fun x hx1 _ => zu_n hx1)
  rcases hL.2 with ⟨h1, _, h2⟩ | ⟨h1, h2, h3⟩
  · exact Or.inl ⟨h1, rfl, h2⟩
  · have hda : ed ≠ a := fun q => by rw [q, hA] at h1; cases h1
    exact Or.inr ⟨by rw [zu_n hda]; exact h1, by omega, h3⟩
