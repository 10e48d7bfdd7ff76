/-! join, cut -/
def zJp (S : Nat → Nat → Nat → Int32) (N : Nat → Nat → Nat) (d : Nat) : Nat → (Nat → Nat → Nat → Int32) × (Nat → Nat → Nat)
  | 0 => (S, N)
  | k + 1 => (zDs (zJp S N d k).1 (zJp S N d k).2 (100 * d + k), zDn (zJp S N d k).1 (zJp S N d k).2 (100 * d + k))
theorem zDn_t {S : Nat → Nat → Nat → Int32} {N : Nat → Nat → Nat} {q t i : Nat} (h : t ≠ 1) : zDn S N q t i = N t i := by
  unfold zDn
  split
  · rfl
  · split
    · exact zN_t h
    · rfl
theorem zDn_1 {S : Nat → Nat → Nat → Int32} {N : Nat → Nat → Nat} {q : Nat} : N 1 0 ≤ zDn S N q 1 0 ∧ zDn S N q 1 0 ≤ N 1 0 + 1 := by
  unfold zDn
  split
  · omega
  · split
    · rw [zN_e]; omega
    · omega
theorem zJp_t {S : Nat → Nat → Nat → Int32} {N : Nat → Nat → Nat} {d t i : Nat} (h : t ≠ 1) : ∀ k, (zJp S N d k).2 t i = N t i
  | 0 => rfl
  | k + 1 => by
    show zDn _ _ _ t i = _
    rw [zDn_t h]
    exact zJp_t h k
theorem zJp_1 {S : Nat → Nat → Nat → Int32} {N : Nat → Nat → Nat} {d : Nat} : ∀ k m, (zJp S N d k).2 1 0 ≤ (zJp S N d (k + m)).2 1 0
  | k, 0 => Nat.le_refl _
  | k, m + 1 => Nat.le_trans (zJp_1 k m) (by
    show _ ≤ (zJp S N d (k + m + 1)).2 1 0
    exact zDn_1.1)
def zJoin (S : Nat → Nat → Nat → Int32) (N : Nat → Nat → Nat) (dev v : Int32) (S' : Nat → Nat → Nat → Int32) (N' : Nat → Nat → Nat) : Prop :=
  (¬ (0 ≤ dev ∧ dev < 8) ∧ v = -12 ∧ S' = S ∧ N' = N) ∨ ∃ d, d < 8 ∧ dev = nI d ∧ ((S 4 d 0 = 0 ∧ v = -13 ∧ S' = S ∧ N' = N) ∨
    (S 4 d 0 ≠ 0 ∧ S' = zS (zJp S N d (N 3 d)).1 4 d (fun _ => 0) ∧ N' = zN1 (zJp S N d (N 3 d)).2 3 d 0 ∧ (((zJp S N d (N 3 d)).2 1 0 = N 1 0 ∧ v = nI (N 3 d)) ∨ ((zJp S N d (N 3 d)).2 1 0 ≠ N 1 0 ∧ v = -1 - nI (N 1 0)))))
set_option maxHeartbeats 4000000 in
set_option maxRecDepth 100000 in
theorem c_D_join (l : Launch) (D : va_G) (dA : Nat → ClassId) (z : Nat) (M : zVw) (rl : Nat → Nat) (A : Nat → Nat → Nat) (S : Nat → Nat → Nat → Int32) (N : Nat → Nat → Nat) (T : Nat → Int64) (dev : Int32) (MC MS : Nat) (hMC : ∀ d, d < 8 → dev = nI d → 2 * ((zJp S N d (N 3 d)).2 1 0 - N 1 0) ≤ MC) (hMS : ∀ d, d < 8 → dev = nI d → 1513 * ((zJp S N d (N 3 d)).2 1 0 - N 1 0) ≤ MS) (hr : zRep M rl dA A S N T) : zMet l y_D_join b_D_join 6 (some .int) 8 193 MC MS D dA z [.ref (A 0 0), .int dev] M (fun v M' => ∃ r S' N' rl' A', v = some (.int r) ∧ zRep M' rl' dA A' S' N' T ∧ zFr M rl M' rl' ∧ A' 0 0 = A 0 0 ∧ zJoin S N dev r S' N') := by
  have hM2 := hr.1.1
  unfold zDo at hM2
  have b2 := hr.2.2.2.2.2.2.2.2.2.2.2.2.1
  refine z_of 1 false (by decide) (fun h => by first | rfl | cases h) (Nat.le_of_ble_eq_true rfl) trivial ?_
  intro p e s m args below meth c C hR
  refine zgo (cut := fun _ => false) 60 C lk_D hR ?_
  simp only [zs_iconst, zs_bipush, zs_iload_n, zs_iload, zs_aload_n, zs_istore_n, zs_astore_n0, zs_astore_n1, zs_istore, zs_isub, zs_if_ne, zs_icmp_ne, zs_icmp_ge, zs_goto, zs_iinc, zs_get, zs_aaload, zs_ireturn, zx_iv, zx_is, zx_it, zx_nw, zx_na, zx_an, zx_cc, zx_gs, zx_as, zx_ae, zx_ac, zx_at, zr_seg, zr_t, zr_f, zr_tp, zr_fp, zr_lg, zr_lr, zr_lr0, zr_wi, zr_wr, zr_wn, zr_wl, zr_vo, zr_so, zr_sI, zr_sL, zr_sA, zr_sN, zr_in, zr_rd, zr_wr2, zr_kf, zr_k0, zr_k1, zr_k2, zr_k3, zr_k3n, zr_k10, zr_k11, zr_k12, zr_k13, zr_k13n, zr_ai, zr_af, zr_aw, zr_aL, zr_Lf, zr_Lw, zr_l2, zr_l20, zr_al, zr_an, zr_aq, zr_ag, zr_rfs, zr_rfn, zr_r1, zr_r2, zr_w0, zr_w1, zr_tl, zr_40, zr_41, zr_42, zr_43, d_D_join_0, d_D_join_1, d_D_join_4, zt_4_6, zo_4_6, d_D_join_7, cb_m12, d_D_join_9, d_D_join_10, d_D_join_11, fl_D_28, d_D_join_14, d_D_join_15, d_D_join_16, d_D_join_17, d_D_join_18, fl_D_65, d_D_join_21, zt_21_6, zo_21_6, d_D_join_24, cb_m13, d_D_join_26, d_D_join_27, d_D_join_28, fl_D_16, d_D_join_31, d_D_join_34, d_D_join_35, d_D_join_36, fl_D_93, d_D_join_39, d_D_join_42, d_D_join_44, ci_0, d_D_join_45, d_D_join_47, d_D_join_49, d_D_join_51, zt_51_25, zo_51_25, d_D_join_54, d_D_join_55, d_D_join_56, d_D_join_59, d_D_join_61, d_D_join_64, d_D_join_67, d_D_join_70, ci_1, d_D_join_73, zt_73_m26, zo_73_m26, d_D_join_76, d_D_join_77, d_D_join_80, d_D_join_81, d_D_join_84, d_D_join_87, d_D_join_88, zt_88_8, zo_88_8, d_D_join_91, d_D_join_93, zt_93_6, zo_93_6, d_D_join_96, ci_m1, d_D_join_97, d_D_join_98, d_D_join_99, za_0, za_i, za_r, za_n, za_l, zu_s, zu_u, Nat.reduceAdd, Nat.reduceLT, Nat.reduceBEq, Nat.zero_add, Bool.false_or, Bool.or_false, Bool.true_or, Bool.or_true, Bool.false_and, Bool.and_false, Bool.true_and, Bool.and_true, true_and, and_true, true_or, or_true, eq_self, Nat.le_refl, List.getElem?_cons_succ, List.getElem?_cons_zero, List.set_cons_succ, List.set_cons_zero, zk_0, zk_1, zk_2, zk_3, zk_4, zq_1, zq_2, Option.isSome_some, Option.getD_some, Option.toList_some, Option.toList_none, List.cons_append, List.nil_append, true_implies, false_implies, not_true_eq_false, not_false_eq_true, zn_10, Int32.reduceLT, Int32.reduceLE, implies_true, and_self]
  refine zJ_callS (As := [.int dev]) (rest := []) C d_D_join_1 (c_D_isDevice l D dA z M dev) k_D_62 s_D_isDevice ⟨(Nat.le_of_ble_eq_true rfl), (Nat.le_of_ble_eq_true rfl)⟩ ⟨by show 0 + 0 ≤ MC; omega, by show 0 + 0 ≤ MS; omega⟩ rfl (Nat.le_of_ble_eq_true rfl) ?_
  rintro v M9 ⟨e0, rfl⟩; have e0 := e0.symm; subst e0
  by_cases hd : 0 ≤ dev ∧ dev < 8
  · rw [zb_t hd]
    obtain ⟨d, d8, ed⟩ : ∃ d, d < 8 ∧ dev = nI d := by
      obtain ⟨d, _, d2⟩ := nI_of (x := dev) (by clear hR C; (simp only [Int32.lt_iff_toInt_lt, Int32.le_iff_toInt_le, ← Int32.toInt_inj, Int32.reduceToInt] at *; omega))
      subst d2
      exact ⟨d, (nI_ltI (b := 8) (by omega) (by omega)).mp hd.2, rfl⟩
    have a9 := (hr.2.2.2.2.2.2.2.2.1 d d8)
    obtain ⟨g6, h6, h6b⟩ := hr.2.2.2.2.2.1
    have h6u := h6.1
    have hgd := h6b d d8
    have a4 := a9.1.1
    have a4u := a4
    unfold zDv at a4u
    have hin : vp_in dev 8 := by rw [ed]; exact vp_in_nI d8 (by omega)
    have ecl : dev.toNatClampNeg = d := by rw [ed]; exact nI_clamp (by omega)
    have hN3 := a9.2.2.2.2.1
    refine zgo (cut := fun _ => false) 60 C lk_D hR ?_
    simp only [zs_iconst, zs_bipush, zs_iload_n, zs_iload, zs_aload_n, zs_istore_n, zs_astore_n0, zs_astore_n1, zs_istore, zs_isub, zs_if_ne, zs_icmp_ne, zs_icmp_ge, zs_goto, zs_iinc, zs_get, zs_aaload, zs_ireturn, zx_iv, zx_is, zx_it, zx_nw, zx_na, zx_an, zx_cc, zx_gs, zx_as, zx_ae, zx_ac, zx_at, zr_seg, zr_t, zr_f, zr_tp, zr_fp, zr_lg, zr_lr, zr_lr0, zr_wi, zr_wr, zr_wn, zr_wl, zr_vo, zr_so, zr_sI, zr_sL, zr_sA, zr_sN, zr_in, zr_rd, zr_wr2, zr_kf, zr_k0, zr_k1, zr_k2, zr_k3, zr_k3n, zr_k10, zr_k11, zr_k12, zr_k13, zr_k13n, zr_ai, zr_af, zr_aw, zr_aL, zr_Lf, zr_Lw, zr_l2, zr_l20, zr_al, zr_an, zr_aq, zr_ag, zr_rfs, zr_rfn, zr_r1, zr_r2, zr_w0, zr_w1, zr_tl, zr_40, zr_41, zr_42, zr_43, d_D_join_0, d_D_join_1, d_D_join_4, zt_4_6, zo_4_6, d_D_join_7, cb_m12, d_D_join_9, d_D_join_10, d_D_join_11, fl_D_28, d_D_join_14, d_D_join_15, d_D_join_16, d_D_join_17, d_D_join_18, fl_D_65, d_D_join_21, zt_21_6, zo_21_6, d_D_join_24, cb_m13, d_D_join_26, d_D_join_27, d_D_join_28, fl_D_16, d_D_join_31, d_D_join_34, d_D_join_35, d_D_join_36, fl_D_93, d_D_join_39, d_D_join_42, d_D_join_44, ci_0, d_D_join_45, d_D_join_47, d_D_join_49, d_D_join_51, zt_51_25, zo_51_25, d_D_join_54, d_D_join_55, d_D_join_56, d_D_join_59, d_D_join_61, d_D_join_64, d_D_join_67, d_D_join_70, ci_1, d_D_join_73, zt_73_m26, zo_73_m26, d_D_join_76, d_D_join_77, d_D_join_80, d_D_join_81, d_D_join_84, d_D_join_87, d_D_join_88, zt_88_8, zo_88_8, d_D_join_91, d_D_join_93, zt_93_6, zo_93_6, d_D_join_96, ci_m1, d_D_join_97, d_D_join_98, d_D_join_99, za_0, za_i, za_r, za_n, za_l, zu_s, zu_u, Nat.reduceAdd, Nat.reduceLT, Nat.reduceBEq, Nat.zero_add, Bool.false_or, Bool.or_false, Bool.true_or, Bool.or_true, Bool.false_and, Bool.and_false, Bool.true_and, Bool.and_true, true_and, and_true, true_or, or_true, eq_self, Nat.le_refl, List.getElem?_cons_succ, List.getElem?_cons_zero, List.set_cons_succ, List.set_cons_zero, zk_0, zk_1, zk_2, zk_3, zk_4, zq_1, zq_2, Option.isSome_some, Option.getD_some, Option.toList_some, Option.toList_none, List.cons_append, List.nil_append, hM2, h6u, hin, ecl, hgd, a4u, Nat.zero_le, true_implies, false_implies, not_true_eq_false, not_false_eq_true, zn_10, Int32.reduceLT, Int32.reduceLE, implies_true, and_self]
    refine ⟨fun w => ?_, fun w => ⟨-13, S, N, rl, A, rfl, hr, zFr_r _ _, rfl, Or.inr ⟨d, d8, ed, Or.inl ⟨w, rfl, rfl, rfl⟩⟩⟩⟩
    obtain ⟨cap, g, mo, q1, q2, q3⟩ := zLr_get hr.2.2.1
    refine zJ_callV (As := []) (rest := []) C d_D_join_31 (c_L_size l D dA z M (A 0 2) (A 0 7) (N 1 0) mo q1.1) k_D_41 n_L_size v_L_size q1.1 rfl rfl ⟨(Nat.le_of_ble_eq_true rfl), (Nat.le_of_ble_eq_true rfl)⟩ ⟨by show 0 + 0 ≤ MC; omega, by show 0 + 0 ≤ MS; omega⟩ rfl (Nat.le_of_ble_eq_true rfl) ?_
    rintro v M9 ⟨e0, rfl⟩; have e0 := e0.symm; subst e0
    refine zgo (cut := fun _ => false) 60 C lk_D hR ?_
    simp only [zs_iconst, zs_bipush, zs_iload_n, zs_iload, zs_aload_n, zs_istore_n, zs_astore_n0, zs_astore_n1, zs_istore, zs_isub, zs_if_ne, zs_icmp_ne, zs_icmp_ge, zs_goto, zs_iinc, zs_get, zs_aaload, zs_ireturn, zx_iv, zx_is, zx_it, zx_nw, zx_na, zx_an, zx_cc, zx_gs, zx_as, zx_ae, zx_ac, zx_at, zr_seg, zr_t, zr_f, zr_tp, zr_fp, zr_lg, zr_lr, zr_lr0, zr_wi, zr_wr, zr_wn, zr_wl, zr_vo, zr_so, zr_sI, zr_sL, zr_sA, zr_sN, zr_in, zr_rd, zr_wr2, zr_kf, zr_k0, zr_k1, zr_k2, zr_k3, zr_k3n, zr_k10, zr_k11, zr_k12, zr_k13, zr_k13n, zr_ai, zr_af, zr_aw, zr_aL, zr_Lf, zr_Lw, zr_l2, zr_l20, zr_al, zr_an, zr_aq, zr_ag, zr_rfs, zr_rfn, zr_r1, zr_r2, zr_w0, zr_w1, zr_tl, zr_40, zr_41, zr_42, zr_43, d_D_join_0, d_D_join_1, d_D_join_4, zt_4_6, zo_4_6, d_D_join_7, cb_m12, d_D_join_9, d_D_join_10, d_D_join_11, fl_D_28, d_D_join_14, d_D_join_15, d_D_join_16, d_D_join_17, d_D_join_18, fl_D_65, d_D_join_21, zt_21_6, zo_21_6, d_D_join_24, cb_m13, d_D_join_26, d_D_join_27, d_D_join_28, fl_D_16, d_D_join_31, d_D_join_34, d_D_join_35, d_D_join_36, fl_D_93, d_D_join_39, d_D_join_42, d_D_join_44, ci_0, d_D_join_45, d_D_join_47, d_D_join_49, d_D_join_51, zt_51_25, zo_51_25, d_D_join_54, d_D_join_55, d_D_join_56, d_D_join_59, d_D_join_61, d_D_join_64, d_D_join_67, d_D_join_70, ci_1, d_D_join_73, zt_73_m26, zo_73_m26, d_D_join_76, d_D_join_77, d_D_join_80, d_D_join_81, d_D_join_84, d_D_join_87, d_D_join_88, zt_88_8, zo_88_8, d_D_join_91, d_D_join_93, zt_93_6, zo_93_6, d_D_join_96, ci_m1, d_D_join_97, d_D_join_98, d_D_join_99, za_0, za_i, za_r, za_n, za_l, zu_s, zu_u, Nat.reduceAdd, Nat.reduceLT, Nat.reduceBEq, Nat.zero_add, Bool.false_or, Bool.or_false, Bool.true_or, Bool.or_true, Bool.false_and, Bool.and_false, Bool.true_and, Bool.and_true, true_and, and_true, true_or, or_true, eq_self, Nat.le_refl, List.getElem?_cons_succ, List.getElem?_cons_zero, List.set_cons_succ, List.set_cons_zero, zk_0, zk_1, zk_2, zk_3, zk_4, zq_1, zq_2, Option.isSome_some, Option.getD_some, Option.toList_some, Option.toList_none, List.cons_append, List.nil_append, a4u, true_implies, false_implies, not_true_eq_false, not_false_eq_true, zn_10, Int32.reduceLT, Int32.reduceLE, implies_true, and_self]
    obtain ⟨cap5, g5, mo5, r1, r2, r3⟩ := zLr_get a9.2.2.1
    refine zJ_callV (As := []) (rest := []) C d_D_join_39 (c_L_size l D dA z M (A 5 d) (A 7 d) (N 3 d) mo5 r1.1) k_D_41 n_L_size v_L_size r1.1 rfl rfl ⟨(Nat.le_of_ble_eq_true rfl), (Nat.le_of_ble_eq_true rfl)⟩ ⟨by show 0 + 0 ≤ MC; omega, by show 0 + 0 ≤ MS; omega⟩ rfl (Nat.le_of_ble_eq_true rfl) ?_
    rintro v M9 ⟨e0, rfl⟩; have e0 := e0.symm; subst e0
    have h1 := hMC d d8 ed
    have h2 := hMS d d8 ed
    have loop : ∀ (k i : Nat) (M1 : zVw) (rl1 : Nat → Nat) (A1 : Nat → Nat → Nat), N 3 d - i ≤ k → i ≤ N 3 d → zRep M1 rl1 dA A1 (zJp S N d i).1 (zJp S N d i).2 T → zFr M rl M1 rl1 → (∀ t i, t ≠ 0 → t ≠ 3 → A1 t i = A t i) → A1 0 0 = A 0 0 → zJ p l e (zR 8 193 MC MS) s m args below meth c (MQ below (zQ D dA z (fun v M' => ∃ r S' N' rl' A', v = some (.int r) ∧ zRep M' rl' dA A' S' N' T ∧ zFr M rl M' rl' ∧ A' 0 0 = A 0 0 ∧ zJoin S N dev r S' N')) args s MC MS (fun q => z ≤ q)) 6 z D 47 [(5, .int (nI i)), (4, .int (nI (N 3 d))), (3, .int (nI (N 1 0))), (2, .ref (A 4 d)), (0, .ref (A 0 0)), (1, .int dev)] [] M1 (2 * ((zJp S N d i).2 1 0 - N 1 0)) (1513 * ((zJp S N d i).2 1 0 - N 1 0)) := by
      have fin : ∀ (M1 : zVw) (rl1 : Nat → Nat) (A1 : Nat → Nat → Nat), zRep M1 rl1 dA A1 (zJp S N d (N 3 d)).1 (zJp S N d (N 3 d)).2 T → zFr M rl M1 rl1 → (∀ t i, t ≠ 0 → t ≠ 3 → A1 t i = A t i) → A1 0 0 = A 0 0 → zJ p l e (zR 8 193 MC MS) s m args below meth c (MQ below (zQ D dA z (fun v M' => ∃ r S' N' rl' A', v = some (.int r) ∧ zRep M' rl' dA A' S' N' T ∧ zFr M rl M' rl' ∧ A' 0 0 = A 0 0 ∧ zJoin S N dev r S' N')) args s MC MS (fun q => z ≤ q)) 6 z D 77 [(5, .int (nI (N 3 d))), (4, .int (nI (N 3 d))), (3, .int (nI (N 1 0))), (2, .ref (A 4 d)), (0, .ref (A 0 0)), (1, .int dev)] [.ref (A 4 d)] M1 (2 * ((zJp S N d (N 3 d)).2 1 0 - N 1 0)) (1513 * ((zJp S N d (N 3 d)).2 1 0 - N 1 0)) := by
        intro M1 rl1 A1 hr1 hf1 hA1 hA0
        refine zJ_h100 C (fun h100 => ?_)
        have c9 := hr1.2.2.2.2.2.2.2.2.1 d d8
        have c4 := c9.1.1
        obtain ⟨cap1, g1, mo1, s1, s2, s3, s4, s5⟩ := c9.2.2.1
        rw [← hA1 4 d (by decide) (by decide)]
        refine zJ_callV (As := []) (rest := []) C d_D_join_77 (c_V_goOnLine l D dA z M1 (A1 4 d) (A1 5 d) (A1 6 d) (A1 7 d) _ cap1 _ mo1 (T d) g1 c4 s1 (by omega)) k_D_116 n_V_goOnLine v_V_goOnLine c4 rfl rfl ⟨(Nat.le_of_ble_eq_true rfl), (Nat.le_of_ble_eq_true rfl)⟩ ⟨by show _ + 0 ≤ MC; omega, by show _ + 0 ≤ MS; omega⟩ rfl (Nat.le_of_ble_eq_true rfl) ?_
        rintro v M2 ⟨rfl, t1, g2, t2, t3⟩
        obtain ⟨u1, u2⟩ := rep_online hr1 d8 t1 t2 s2 s4 t3 h100
        have hM3 := u1.1.1
        unfold zDo at hM3
        rw [hA0] at hM3
        obtain ⟨cap3, g3, mo3, w1, w2, w3⟩ := zLr_get u1.2.2.1
        rw [zN_t (by decide)] at w1
        refine zgo (cut := fun _ => false) 60 C lk_D hR ?_
        simp only [zs_iconst, zs_bipush, zs_iload_n, zs_iload, zs_aload_n, zs_istore_n, zs_astore_n0, zs_astore_n1, zs_istore, zs_isub, zs_if_ne, zs_icmp_ne, zs_icmp_ge, zs_goto, zs_iinc, zs_get, zs_aaload, zs_ireturn, zx_iv, zx_is, zx_it, zx_nw, zx_na, zx_an, zx_cc, zx_gs, zx_as, zx_ae, zx_ac, zx_at, zr_seg, zr_t, zr_f, zr_tp, zr_fp, zr_lg, zr_lr, zr_lr0, zr_wi, zr_wr, zr_wn, zr_wl, zr_vo, zr_so, zr_sI, zr_sL, zr_sA, zr_sN, zr_in, zr_rd, zr_wr2, zr_kf, zr_k0, zr_k1, zr_k2, zr_k3, zr_k3n, zr_k10, zr_k11, zr_k12, zr_k13, zr_k13n, zr_ai, zr_af, zr_aw, zr_aL, zr_Lf, zr_Lw, zr_l2, zr_l20, zr_al, zr_an, zr_aq, zr_ag, zr_rfs, zr_rfn, zr_r1, zr_r2, zr_w0, zr_w1, zr_tl, zr_40, zr_41, zr_42, zr_43, d_D_join_0, d_D_join_1, d_D_join_4, zt_4_6, zo_4_6, d_D_join_7, cb_m12, d_D_join_9, d_D_join_10, d_D_join_11, fl_D_28, d_D_join_14, d_D_join_15, d_D_join_16, d_D_join_17, d_D_join_18, fl_D_65, d_D_join_21, zt_21_6, zo_21_6, d_D_join_24, cb_m13, d_D_join_26, d_D_join_27, d_D_join_28, fl_D_16, d_D_join_31, d_D_join_34, d_D_join_35, d_D_join_36, fl_D_93, d_D_join_39, d_D_join_42, d_D_join_44, ci_0, d_D_join_45, d_D_join_47, d_D_join_49, d_D_join_51, zt_51_25, zo_51_25, d_D_join_54, d_D_join_55, d_D_join_56, d_D_join_59, d_D_join_61, d_D_join_64, d_D_join_67, d_D_join_70, ci_1, d_D_join_73, zt_73_m26, zo_73_m26, d_D_join_76, d_D_join_77, d_D_join_80, d_D_join_81, d_D_join_84, d_D_join_87, d_D_join_88, zt_88_8, zo_88_8, d_D_join_91, d_D_join_93, zt_93_6, zo_93_6, d_D_join_96, ci_m1, d_D_join_97, d_D_join_98, d_D_join_99, za_0, za_i, za_r, za_n, za_l, zu_s, zu_u, Nat.reduceAdd, Nat.reduceLT, Nat.reduceBEq, Nat.zero_add, Bool.false_or, Bool.or_false, Bool.true_or, Bool.or_true, Bool.false_and, Bool.and_false, Bool.true_and, Bool.and_true, true_and, and_true, true_or, or_true, eq_self, Nat.le_refl, List.getElem?_cons_succ, List.getElem?_cons_zero, List.set_cons_succ, List.set_cons_zero, zk_0, zk_1, zk_2, zk_3, zk_4, zq_1, zq_2, Option.isSome_some, Option.getD_some, Option.toList_some, Option.toList_none, List.cons_append, List.nil_append, hM3, true_implies, false_implies, not_true_eq_false, not_false_eq_true, zn_10, Int32.reduceLT, Int32.reduceLE, implies_true, and_self]
        refine zJ_callV (As := []) (rest := []) C d_D_join_84 (c_L_size l D dA z M2 (A1 0 2) (A1 0 7) _ mo3 w1.1) k_D_41 n_L_size v_L_size w1.1 rfl rfl ⟨(Nat.le_of_ble_eq_true rfl), (Nat.le_of_ble_eq_true rfl)⟩ ⟨by show _ + 0 ≤ MC; omega, by show _ + 0 ≤ MS; omega⟩ rfl (Nat.le_of_ble_eq_true rfl) ?_
        rintro v M9 ⟨e0, rfl⟩; have e0 := e0.symm; subst e0
        have hmono := zJp_1 (S := S) (N := N) (d := d) 0 (N 3 d)
        rw [Nat.zero_add] at hmono
        have hmono : N 1 0 ≤ (zJp S N d (N 3 d)).2 1 0 := hmono
        have hb5 := hr1.2.2.2.2.2.2.2.2.2.2.2.2.1
        refine zgo (cut := fun _ => false) 60 C lk_D hR ?_
        simp only [zs_iconst, zs_bipush, zs_iload_n, zs_iload, zs_aload_n, zs_istore_n, zs_astore_n0, zs_astore_n1, zs_istore, zs_isub, zs_if_ne, zs_icmp_ne, zs_icmp_ge, zs_goto, zs_iinc, zs_get, zs_aaload, zs_ireturn, zx_iv, zx_is, zx_it, zx_nw, zx_na, zx_an, zx_cc, zx_gs, zx_as, zx_ae, zx_ac, zx_at, zr_seg, zr_t, zr_f, zr_tp, zr_fp, zr_lg, zr_lr, zr_lr0, zr_wi, zr_wr, zr_wn, zr_wl, zr_vo, zr_so, zr_sI, zr_sL, zr_sA, zr_sN, zr_in, zr_rd, zr_wr2, zr_kf, zr_k0, zr_k1, zr_k2, zr_k3, zr_k3n, zr_k10, zr_k11, zr_k12, zr_k13, zr_k13n, zr_ai, zr_af, zr_aw, zr_aL, zr_Lf, zr_Lw, zr_l2, zr_l20, zr_al, zr_an, zr_aq, zr_ag, zr_rfs, zr_rfn, zr_r1, zr_r2, zr_w0, zr_w1, zr_tl, zr_40, zr_41, zr_42, zr_43, d_D_join_0, d_D_join_1, d_D_join_4, zt_4_6, zo_4_6, d_D_join_7, cb_m12, d_D_join_9, d_D_join_10, d_D_join_11, fl_D_28, d_D_join_14, d_D_join_15, d_D_join_16, d_D_join_17, d_D_join_18, fl_D_65, d_D_join_21, zt_21_6, zo_21_6, d_D_join_24, cb_m13, d_D_join_26, d_D_join_27, d_D_join_28, fl_D_16, d_D_join_31, d_D_join_34, d_D_join_35, d_D_join_36, fl_D_93, d_D_join_39, d_D_join_42, d_D_join_44, ci_0, d_D_join_45, d_D_join_47, d_D_join_49, d_D_join_51, zt_51_25, zo_51_25, d_D_join_54, d_D_join_55, d_D_join_56, d_D_join_59, d_D_join_61, d_D_join_64, d_D_join_67, d_D_join_70, ci_1, d_D_join_73, zt_73_m26, zo_73_m26, d_D_join_76, d_D_join_77, d_D_join_80, d_D_join_81, d_D_join_84, d_D_join_87, d_D_join_88, zt_88_8, zo_88_8, d_D_join_91, d_D_join_93, zt_93_6, zo_93_6, d_D_join_96, ci_m1, d_D_join_97, d_D_join_98, d_D_join_99, za_0, za_i, za_r, za_n, za_l, zu_s, zu_u, Nat.reduceAdd, Nat.reduceLT, Nat.reduceBEq, Nat.zero_add, Bool.false_or, Bool.or_false, Bool.true_or, Bool.or_true, Bool.false_and, Bool.and_false, Bool.true_and, Bool.and_true, true_and, and_true, true_or, or_true, eq_self, Nat.le_refl, List.getElem?_cons_succ, List.getElem?_cons_zero, List.set_cons_succ, List.set_cons_zero, zk_0, zk_1, zk_2, zk_3, zk_4, zq_1, zq_2, Option.isSome_some, Option.getD_some, Option.toList_some, Option.toList_none, List.cons_append, List.nil_append, true_implies, false_implies, not_true_eq_false, not_false_eq_true, zn_10, Int32.reduceLT, Int32.reduceLE, implies_true, and_self]
        refine ⟨fun y => ⟨by omega, by omega, _, _, _, rl1, A1, rfl, u1, zFr_t hf1 u2, hA0, Or.inr ⟨d, d8, ed, Or.inr ⟨w, rfl, rfl, Or.inr ⟨fun u => y (by rw [u]), rfl⟩⟩⟩⟩, fun y => ⟨by omega, by omega, _, _, _, rl1, A1, rfl, u1, zFr_t hf1 u2, hA0, Or.inr ⟨d, d8, ed, Or.inr ⟨w, rfl, rfl, Or.inl ⟨(nI_eq (by omega) (by omega)).mp y, rfl⟩⟩⟩⟩⟩
      intro k
      induction k with
      | zero =>
        intro i M1 rl1 A1 k1 k2 hr1 hf1 hA1 hA0
        have hi : i = N 3 d := by omega
        subst hi
        refine zgo (cut := fun q => q == 47) 60 C lk_D hR ?_
        simp only [zs_iconst, zs_bipush, zs_iload_n, zs_iload, zs_aload_n, zs_istore_n, zs_astore_n0, zs_astore_n1, zs_istore, zs_isub, zs_if_ne, zs_icmp_ne, zs_icmp_ge, zs_goto, zs_iinc, zs_get, zs_aaload, zs_ireturn, zx_iv, zx_is, zx_it, zx_nw, zx_na, zx_an, zx_cc, zx_gs, zx_as, zx_ae, zx_ac, zx_at, zr_seg, zr_t, zr_f, zr_tp, zr_fp, zr_lg, zr_lr, zr_lr0, zr_wi, zr_wr, zr_wn, zr_wl, zr_vo, zr_so, zr_sI, zr_sL, zr_sA, zr_sN, zr_in, zr_rd, zr_wr2, zr_kf, zr_k0, zr_k1, zr_k2, zr_k3, zr_k3n, zr_k10, zr_k11, zr_k12, zr_k13, zr_k13n, zr_ai, zr_af, zr_aw, zr_aL, zr_Lf, zr_Lw, zr_l2, zr_l20, zr_al, zr_an, zr_aq, zr_ag, zr_rfs, zr_rfn, zr_r1, zr_r2, zr_w0, zr_w1, zr_tl, zr_40, zr_41, zr_42, zr_43, d_D_join_0, d_D_join_1, d_D_join_4, zt_4_6, zo_4_6, d_D_join_7, cb_m12, d_D_join_9, d_D_join_10, d_D_join_11, fl_D_28, d_D_join_14, d_D_join_15, d_D_join_16, d_D_join_17, d_D_join_18, fl_D_65, d_D_join_21, zt_21_6, zo_21_6, d_D_join_24, cb_m13, d_D_join_26, d_D_join_27, d_D_join_28, fl_D_16, d_D_join_31, d_D_join_34, d_D_join_35, d_D_join_36, fl_D_93, d_D_join_39, d_D_join_42, d_D_join_44, ci_0, d_D_join_45, d_D_join_47, d_D_join_49, d_D_join_51, zt_51_25, zo_51_25, d_D_join_54, d_D_join_55, d_D_join_56, d_D_join_59, d_D_join_61, d_D_join_64, d_D_join_67, d_D_join_70, ci_1, d_D_join_73, zt_73_m26, zo_73_m26, d_D_join_76, d_D_join_77, d_D_join_80, d_D_join_81, d_D_join_84, d_D_join_87, d_D_join_88, zt_88_8, zo_88_8, d_D_join_91, d_D_join_93, zt_93_6, zo_93_6, d_D_join_96, ci_m1, d_D_join_97, d_D_join_98, d_D_join_99, za_0, za_i, za_r, za_n, za_l, zu_s, zu_u, Nat.reduceAdd, Nat.reduceLT, Nat.reduceBEq, Nat.zero_add, Bool.false_or, Bool.or_false, Bool.true_or, Bool.or_true, Bool.false_and, Bool.and_false, Bool.true_and, Bool.and_true, true_and, and_true, true_or, or_true, eq_self, Nat.le_refl, List.getElem?_cons_succ, List.getElem?_cons_zero, List.set_cons_succ, List.set_cons_zero, zk_0, zk_1, zk_2, zk_3, zk_4, zq_1, zq_2, Option.isSome_some, Option.getD_some, Option.toList_some, Option.toList_none, List.cons_append, List.nil_append, true_implies, false_implies, not_true_eq_false, not_false_eq_true, zn_10, Int32.reduceLT, Int32.reduceLE, implies_true, and_self]
        exact ⟨fun _ => fin M1 rl1 A1 hr1 hf1 hA1 hA0, fun y => absurd (nI_le (Nat.le_refl _) (by omega)) y⟩
      | succ k ih =>
        intro i M1 rl1 A1 k1 k2 hr1 hf1 hA1 hA0
        have c9 := hr1.2.2.2.2.2.2.2.2.1 d d8
        have c4 := c9.1.1
        have c4u := c4
        unfold zDv at c4u
        rw [hA1 4 d (by decide) (by decide)] at c4u
        obtain ⟨cap1, g1, mo1, s1, s2, s3⟩ := zLr_get c9.2.2.1
        rw [zJp_t (by decide)] at s1
        refine zgo (cut := fun q => q == 47) 60 C lk_D hR ?_
        simp only [zs_iconst, zs_bipush, zs_iload_n, zs_iload, zs_aload_n, zs_istore_n, zs_astore_n0, zs_astore_n1, zs_istore, zs_isub, zs_if_ne, zs_icmp_ne, zs_icmp_ge, zs_goto, zs_iinc, zs_get, zs_aaload, zs_ireturn, zx_iv, zx_is, zx_it, zx_nw, zx_na, zx_an, zx_cc, zx_gs, zx_as, zx_ae, zx_ac, zx_at, zr_seg, zr_t, zr_f, zr_tp, zr_fp, zr_lg, zr_lr, zr_lr0, zr_wi, zr_wr, zr_wn, zr_wl, zr_vo, zr_so, zr_sI, zr_sL, zr_sA, zr_sN, zr_in, zr_rd, zr_wr2, zr_kf, zr_k0, zr_k1, zr_k2, zr_k3, zr_k3n, zr_k10, zr_k11, zr_k12, zr_k13, zr_k13n, zr_ai, zr_af, zr_aw, zr_aL, zr_Lf, zr_Lw, zr_l2, zr_l20, zr_al, zr_an, zr_aq, zr_ag, zr_rfs, zr_rfn, zr_r1, zr_r2, zr_w0, zr_w1, zr_tl, zr_40, zr_41, zr_42, zr_43, d_D_join_0, d_D_join_1, d_D_join_4, zt_4_6, zo_4_6, d_D_join_7, cb_m12, d_D_join_9, d_D_join_10, d_D_join_11, fl_D_28, d_D_join_14, d_D_join_15, d_D_join_16, d_D_join_17, d_D_join_18, fl_D_65, d_D_join_21, zt_21_6, zo_21_6, d_D_join_24, cb_m13, d_D_join_26, d_D_join_27, d_D_join_28, fl_D_16, d_D_join_31, d_D_join_34, d_D_join_35, d_D_join_36, fl_D_93, d_D_join_39, d_D_join_42, d_D_join_44, ci_0, d_D_join_45, d_D_join_47, d_D_join_49, d_D_join_51, zt_51_25, zo_51_25, d_D_join_54, d_D_join_55, d_D_join_56, d_D_join_59, d_D_join_61, d_D_join_64, d_D_join_67, d_D_join_70, ci_1, d_D_join_73, zt_73_m26, zo_73_m26, d_D_join_76, d_D_join_77, d_D_join_80, d_D_join_81, d_D_join_84, d_D_join_87, d_D_join_88, zt_88_8, zo_88_8, d_D_join_91, d_D_join_93, zt_93_6, zo_93_6, d_D_join_96, ci_m1, d_D_join_97, d_D_join_98, d_D_join_99, za_0, za_i, za_r, za_n, za_l, zu_s, zu_u, Nat.reduceAdd, Nat.reduceLT, Nat.reduceBEq, Nat.zero_add, Bool.false_or, Bool.or_false, Bool.true_or, Bool.or_true, Bool.false_and, Bool.and_false, Bool.true_and, Bool.and_true, true_and, and_true, true_or, or_true, eq_self, Nat.le_refl, List.getElem?_cons_succ, List.getElem?_cons_zero, List.set_cons_succ, List.set_cons_zero, zk_0, zk_1, zk_2, zk_3, zk_4, zq_1, zq_2, Option.isSome_some, Option.getD_some, Option.toList_some, Option.toList_none, List.cons_append, List.nil_append, c4u, true_implies, false_implies, not_true_eq_false, not_false_eq_true, zn_10, Int32.reduceLT, Int32.reduceLE, implies_true, and_self]
        refine ⟨fun y => ?_, fun y => ?_⟩
        · have hi : i = N 3 d := by
            rcases Nat.lt_or_ge i (N 3 d) with u | u
            · exact absurd y (nI_ge u (by omega))
            · omega
          subst hi
          exact fin M1 rl1 A1 hr1 hf1 hA1 hA0
        · have hlt : i < N 3 d := by
            rcases Nat.lt_or_ge i (N 3 d) with u | u
            · exact u
            · exact absurd (nI_le u (by omega)) y
          have hmi : (zJp S N d i).2 1 0 ≤ (zJp S N d (N 3 d)).2 1 0 := by
            have := zJp_1 (S := S) (N := N) (d := d) i (N 3 d - i)
            rw [show i + (N 3 d - i) = N 3 d by omega] at this
            exact this
          have hmi1 : (zJp S N d (i + 1)).2 1 0 ≤ (zJp S N d (N 3 d)).2 1 0 := by
            have := zJp_1 (S := S) (N := N) (d := d) (i + 1) (N 3 d - (i + 1))
            rw [show i + 1 + (N 3 d - (i + 1)) = N 3 d by omega] at this
            exact this
          have hm0 : N 1 0 ≤ (zJp S N d i).2 1 0 := by
            have := zJp_1 (S := S) (N := N) (d := d) 0 i
            rw [Nat.zero_add] at this
            exact this
          have hms : (zJp S N d i).2 1 0 ≤ (zJp S N d (i + 1)).2 1 0 := zDn_1.1
          have hnc : N 3 d ≤ cap1 := by
            rcases s1.2 with ⟨_, u1, u2⟩ | ⟨_, u1, _⟩
            · omega
            · exact u1
          rcases s1.2 with ⟨_, u1, _⟩ | ⟨hE, _, _⟩
          · omega
          have hact := (hr1.2.2.2.2.2.2.2.2.2.1 d i d8 (by rw [zJp_t (by decide)]; exact hlt)).1.1
          unfold aA at hact
          refine zJ_callV (As := [.int (nI i)]) (rest := [.ref (A 0 0)]) C d_D_join_61 (c_L_get l D dA z M1 (A1 5 d) (A1 7 d) (N 3 d) cap1 i (A1 9 (100 * d + i)) mo1 g1 s1.1 hE hlt hnc (by omega) (s3 i (by rw [zJp_t (by decide)]; exact hlt))) k_D_109 n_L_get v_L_get s1.1 rfl rfl ⟨(Nat.le_of_ble_eq_true rfl), (Nat.le_of_ble_eq_true rfl)⟩ ⟨by show _ + 0 ≤ MC; omega, by show _ + 0 ≤ MS; omega⟩ rfl (Nat.le_of_ble_eq_true rfl) ?_
          rintro v M9 ⟨e0, rfl⟩; have e0 := e0.symm; subst e0
          refine zJ_cast (ci := 1) (rest := [.ref (A 0 0)]) C d_D_join_64 (by decide +kernel) rfl rfl hact ?_
          rw [← hA0]
          refine zJ_callV (As := [.ref (A1 9 (100 * d + i))]) (rest := []) C d_D_join_67 (c_D_doForAll l D dA z M1 rl1 A1 (zJp S N d i).1 (zJp S N d i).2 T d i hr1 d8 (by rw [zJp_t (by decide)]; exact hlt)) k_D_113 n_D_doForAll v_D_doForAll hr1.1.1 rfl rfl ⟨(Nat.le_of_ble_eq_true rfl), (Nat.le_of_ble_eq_true rfl)⟩ ⟨by
            show 2 * ((zJp S N d i).2 1 0 - N 1 0) + 0 + 2 * ((zJp S N d (i + 1)).2 1 0 - (zJp S N d i).2 1 0) ≤ MC
            omega, by
            show 1513 * ((zJp S N d i).2 1 0 - N 1 0) + 0 + 1513 * ((zJp S N d (i + 1)).2 1 0 - (zJp S N d i).2 1 0) ≤ MS
            omega⟩ rfl (Nat.le_of_ble_eq_true rfl) ?_
          rintro v M2 ⟨rfl, rl2, A2, t1, t2, t3, t4⟩
          rw [hA0]
          refine zgo (cut := fun q => q == 47) 60 C lk_D hR ?_
          simp only [zs_iconst, zs_bipush, zs_iload_n, zs_iload, zs_aload_n, zs_istore_n, zs_astore_n0, zs_astore_n1, zs_istore, zs_isub, zs_if_ne, zs_icmp_ne, zs_icmp_ge, zs_goto, zs_iinc, zs_get, zs_aaload, zs_ireturn, zx_iv, zx_is, zx_it, zx_nw, zx_na, zx_an, zx_cc, zx_gs, zx_as, zx_ae, zx_ac, zx_at, zr_seg, zr_t, zr_f, zr_tp, zr_fp, zr_lg, zr_lr, zr_lr0, zr_wi, zr_wr, zr_wn, zr_wl, zr_vo, zr_so, zr_sI, zr_sL, zr_sA, zr_sN, zr_in, zr_rd, zr_wr2, zr_kf, zr_k0, zr_k1, zr_k2, zr_k3, zr_k3n, zr_k10, zr_k11, zr_k12, zr_k13, zr_k13n, zr_ai, zr_af, zr_aw, zr_aL, zr_Lf, zr_Lw, zr_l2, zr_l20, zr_al, zr_an, zr_aq, zr_ag, zr_rfs, zr_rfn, zr_r1, zr_r2, zr_w0, zr_w1, zr_tl, zr_40, zr_41, zr_42, zr_43, d_D_join_0, d_D_join_1, d_D_join_4, zt_4_6, zo_4_6, d_D_join_7, cb_m12, d_D_join_9, d_D_join_10, d_D_join_11, fl_D_28, d_D_join_14, d_D_join_15, d_D_join_16, d_D_join_17, d_D_join_18, fl_D_65, d_D_join_21, zt_21_6, zo_21_6, d_D_join_24, cb_m13, d_D_join_26, d_D_join_27, d_D_join_28, fl_D_16, d_D_join_31, d_D_join_34, d_D_join_35, d_D_join_36, fl_D_93, d_D_join_39, d_D_join_42, d_D_join_44, ci_0, d_D_join_45, d_D_join_47, d_D_join_49, d_D_join_51, zt_51_25, zo_51_25, d_D_join_54, d_D_join_55, d_D_join_56, d_D_join_59, d_D_join_61, d_D_join_64, d_D_join_67, d_D_join_70, ci_1, d_D_join_73, zt_73_m26, zo_73_m26, d_D_join_76, d_D_join_77, d_D_join_80, d_D_join_81, d_D_join_84, d_D_join_87, d_D_join_88, zt_88_8, zo_88_8, d_D_join_91, d_D_join_93, zt_93_6, zo_93_6, d_D_join_96, ci_m1, d_D_join_97, d_D_join_98, d_D_join_99, za_0, za_i, za_r, za_n, za_l, zu_s, zu_u, Nat.reduceAdd, Nat.reduceLT, Nat.reduceBEq, Nat.zero_add, Bool.false_or, Bool.or_false, Bool.true_or, Bool.or_true, Bool.false_and, Bool.and_false, Bool.true_and, Bool.and_true, true_and, and_true, true_or, or_true, eq_self, Nat.le_refl, List.getElem?_cons_succ, List.getElem?_cons_zero, List.set_cons_succ, List.set_cons_zero, zk_0, zk_1, zk_2, zk_3, zk_4, zq_1, zq_2, Option.isSome_some, Option.getD_some, Option.toList_some, Option.toList_none, List.cons_append, List.nil_append, nI_1, true_implies, false_implies, not_true_eq_false, not_false_eq_true, zn_10, Int32.reduceLT, Int32.reduceLE, implies_true, and_self]
          refine zJ_wide (k' := 2 * ((zJp S N d (i + 1)).2 1 0 - N 1 0)) (n' := 1513 * ((zJp S N d (i + 1)).2 1 0 - N 1 0)) (by
            show 2 * ((zJp S N d i).2 1 0 - N 1 0) + 2 * ((zJp S N d (i + 1)).2 1 0 - (zJp S N d i).2 1 0) ≤ _
            omega) (by
            show 1513 * ((zJp S N d i).2 1 0 - N 1 0) + 1513 * ((zJp S N d (i + 1)).2 1 0 - (zJp S N d i).2 1 0) ≤ _
            omega) ?_
          exact ih (i + 1) M2 rl2 A2 (by omega) (by omega) t1 (zFr_t hf1 t2) (fun t i a b => by rw [t3 t i a b, hA1 t i a b]) (t4.trans hA0)
    refine zgo (cut := fun q => q == 47) 60 C lk_D hR ?_
    simp only [zs_iconst, zs_bipush, zs_iload_n, zs_iload, zs_aload_n, zs_istore_n, zs_astore_n0, zs_astore_n1, zs_istore, zs_isub, zs_if_ne, zs_icmp_ne, zs_icmp_ge, zs_goto, zs_iinc, zs_get, zs_aaload, zs_ireturn, zx_iv, zx_is, zx_it, zx_nw, zx_na, zx_an, zx_cc, zx_gs, zx_as, zx_ae, zx_ac, zx_at, zr_seg, zr_t, zr_f, zr_tp, zr_fp, zr_lg, zr_lr, zr_lr0, zr_wi, zr_wr, zr_wn, zr_wl, zr_vo, zr_so, zr_sI, zr_sL, zr_sA, zr_sN, zr_in, zr_rd, zr_wr2, zr_kf, zr_k0, zr_k1, zr_k2, zr_k3, zr_k3n, zr_k10, zr_k11, zr_k12, zr_k13, zr_k13n, zr_ai, zr_af, zr_aw, zr_aL, zr_Lf, zr_Lw, zr_l2, zr_l20, zr_al, zr_an, zr_aq, zr_ag, zr_rfs, zr_rfn, zr_r1, zr_r2, zr_w0, zr_w1, zr_tl, zr_40, zr_41, zr_42, zr_43, d_D_join_0, d_D_join_1, d_D_join_4, zt_4_6, zo_4_6, d_D_join_7, cb_m12, d_D_join_9, d_D_join_10, d_D_join_11, fl_D_28, d_D_join_14, d_D_join_15, d_D_join_16, d_D_join_17, d_D_join_18, fl_D_65, d_D_join_21, zt_21_6, zo_21_6, d_D_join_24, cb_m13, d_D_join_26, d_D_join_27, d_D_join_28, fl_D_16, d_D_join_31, d_D_join_34, d_D_join_35, d_D_join_36, fl_D_93, d_D_join_39, d_D_join_42, d_D_join_44, ci_0, d_D_join_45, d_D_join_47, d_D_join_49, d_D_join_51, zt_51_25, zo_51_25, d_D_join_54, d_D_join_55, d_D_join_56, d_D_join_59, d_D_join_61, d_D_join_64, d_D_join_67, d_D_join_70, ci_1, d_D_join_73, zt_73_m26, zo_73_m26, d_D_join_76, d_D_join_77, d_D_join_80, d_D_join_81, d_D_join_84, d_D_join_87, d_D_join_88, zt_88_8, zo_88_8, d_D_join_91, d_D_join_93, zt_93_6, zo_93_6, d_D_join_96, ci_m1, d_D_join_97, d_D_join_98, d_D_join_99, za_0, za_i, za_r, za_n, za_l, zu_s, zu_u, Nat.reduceAdd, Nat.reduceLT, Nat.reduceBEq, Nat.zero_add, Bool.false_or, Bool.or_false, Bool.true_or, Bool.or_true, Bool.false_and, Bool.and_false, Bool.true_and, Bool.and_true, true_and, and_true, true_or, or_true, eq_self, Nat.le_refl, List.getElem?_cons_succ, List.getElem?_cons_zero, List.set_cons_succ, List.set_cons_zero, zk_0, zk_1, zk_2, zk_3, zk_4, zq_1, zq_2, Option.isSome_some, Option.getD_some, Option.toList_some, Option.toList_none, List.cons_append, List.nil_append, true_implies, false_implies, not_true_eq_false, not_false_eq_true, zn_10, Int32.reduceLT, Int32.reduceLE, implies_true, and_self]
    have e00 : 2 * ((zJp S N d 0).2 1 0 - N 1 0) = 0 := by show 2 * (N 1 0 - N 1 0) = 0; omega
    have e01 : 1513 * ((zJp S N d 0).2 1 0 - N 1 0) = 0 := by show 1513 * (N 1 0 - N 1 0) = 0; omega
    have := loop (N 3 d) 0 M rl A (by omega) (by omega) hr (zFr_r _ _) (fun _ _ _ _ => rfl) rfl
    rw [e00, e01, nI_0] at this
    exact this
  · rw [zb_f hd]
    refine zgo (cut := fun _ => false) 60 C lk_D hR ?_
    simp only [zs_iconst, zs_bipush, zs_iload_n, zs_iload, zs_aload_n, zs_istore_n, zs_astore_n0, zs_astore_n1, zs_istore, zs_isub, zs_if_ne, zs_icmp_ne, zs_icmp_ge, zs_goto, zs_iinc, zs_get, zs_aaload, zs_ireturn, zx_iv, zx_is, zx_it, zx_nw, zx_na, zx_an, zx_cc, zx_gs, zx_as, zx_ae, zx_ac, zx_at, zr_seg, zr_t, zr_f, zr_tp, zr_fp, zr_lg, zr_lr, zr_lr0, zr_wi, zr_wr, zr_wn, zr_wl, zr_vo, zr_so, zr_sI, zr_sL, zr_sA, zr_sN, zr_in, zr_rd, zr_wr2, zr_kf, zr_k0, zr_k1, zr_k2, zr_k3, zr_k3n, zr_k10, zr_k11, zr_k12, zr_k13, zr_k13n, zr_ai, zr_af, zr_aw, zr_aL, zr_Lf, zr_Lw, zr_l2, zr_l20, zr_al, zr_an, zr_aq, zr_ag, zr_rfs, zr_rfn, zr_r1, zr_r2, zr_w0, zr_w1, zr_tl, zr_40, zr_41, zr_42, zr_43, d_D_join_0, d_D_join_1, d_D_join_4, zt_4_6, zo_4_6, d_D_join_7, cb_m12, d_D_join_9, d_D_join_10, d_D_join_11, fl_D_28, d_D_join_14, d_D_join_15, d_D_join_16, d_D_join_17, d_D_join_18, fl_D_65, d_D_join_21, zt_21_6, zo_21_6, d_D_join_24, cb_m13, d_D_join_26, d_D_join_27, d_D_join_28, fl_D_16, d_D_join_31, d_D_join_34, d_D_join_35, d_D_join_36, fl_D_93, d_D_join_39, d_D_join_42, d_D_join_44, ci_0, d_D_join_45, d_D_join_47, d_D_join_49, d_D_join_51, zt_51_25, zo_51_25, d_D_join_54, d_D_join_55, d_D_join_56, d_D_join_59, d_D_join_61, d_D_join_64, d_D_join_67, d_D_join_70, ci_1, d_D_join_73, zt_73_m26, zo_73_m26, d_D_join_76, d_D_join_77, d_D_join_80, d_D_join_81, d_D_join_84, d_D_join_87, d_D_join_88, zt_88_8, zo_88_8, d_D_join_91, d_D_join_93, zt_93_6, zo_93_6, d_D_join_96, ci_m1, d_D_join_97, d_D_join_98, d_D_join_99, za_0, za_i, za_r, za_n, za_l, zu_s, zu_u, Nat.reduceAdd, Nat.reduceLT, Nat.reduceBEq, Nat.zero_add, Bool.false_or, Bool.or_false, Bool.true_or, Bool.or_true, Bool.false_and, Bool.and_false, Bool.true_and, Bool.and_true, true_and, and_true, true_or, or_true, eq_self, Nat.le_refl, List.getElem?_cons_succ, List.getElem?_cons_zero, List.set_cons_succ, List.set_cons_zero, zk_0, zk_1, zk_2, zk_3, zk_4, zq_1, zq_2, Option.isSome_some, Option.getD_some, Option.toList_some, Option.toList_none, List.cons_append, List.nil_append, Nat.zero_le, true_implies, false_implies, not_true_eq_false, not_false_eq_true, zn_10, Int32.reduceLT, Int32.reduceLE, implies_true, and_self]
    exact ⟨-12, S, N, rl, A, rfl, hr, zFr_r _ _, rfl, Or.inl ⟨hd, rfl, rfl, rfl⟩⟩
