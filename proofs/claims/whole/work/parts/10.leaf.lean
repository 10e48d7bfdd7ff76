/-! LEAVES. -/
def zb (p : Prop) [Decidable p] : Int32 := if p then 1 else 0
theorem zb_t {p : Prop} [Decidable p] (h : p) : zb p = 1 := if_pos h
theorem zb_f {p : Prop} [Decidable p] (h : ¬ p) : zb p = 0 := if_neg h
theorem zb_01 (p : Prop) [Decidable p] : zb p = 0 ∨ zb p = 1 := by
  by_cases h : p
  · exact Or.inr (zb_t h)
  · exact Or.inl (zb_f h)
theorem zb_e0 {p : Prop} [Decidable p] : (zb p = 0) = (¬ p) := by
  by_cases h : p
  · rw [zb_t h]; exact propext ⟨fun q => absurd q (by decide), fun q => absurd h q⟩
  · rw [zb_f h]; exact propext ⟨fun _ => h, fun _ => rfl⟩
set_option maxHeartbeats 4000000 in
set_option maxRecDepth 100000 in
/-- isPerson -/
theorem c_D_isPerson (l : Launch) (D : va_G) (dA : Nat → ClassId) (z : Nat) (M : zVw) (p0 : Int32) : zMet l y_D_isPerson b_D_isPerson 1 (some .boolean) 0 0 0 0 D dA z [.int p0] M (fun v M' => M' = M ∧ v = some (.int (zb (0 ≤ p0 ∧ p0 < 100)))) := by
  refine z_of 2 false (by decide) (fun h => by first | rfl | cases h) (Nat.le_of_ble_eq_true rfl) trivial ?_
  intro p e s m args below meth c C hR
  refine zgo (cut := fun _ => false) 60 C lk_D hR ?_
  simp only [zs_iconst, zs_bipush, zs_iload_n, zs_if_lt, zs_icmp_ge, zs_goto, zs_ireturn, zx_iv, zx_is, zx_it, zx_nw, zx_na, zx_an, zx_cc, zx_gs, zx_as, zx_ae, zx_ac, zx_at, zr_seg, zr_t, zr_f, zr_tp, zr_fp, zr_lg, zr_lr, zr_lr0, zr_wi, zr_wr, zr_wn, zr_wl, zr_vo, zr_so, zr_sI, zr_sL, zr_sA, zr_sN, zr_in, zr_rd, zr_wr2, zr_kf, zr_k0, zr_k1, zr_k2, zr_k3, zr_k3n, zr_k10, zr_k11, zr_k12, zr_k13, zr_k13n, zr_ai, zr_af, zr_aw, zr_aL, zr_Lf, zr_Lw, zr_l2, zr_l20, zr_al, zr_an, zr_aq, zr_ag, zr_rfs, zr_rfn, zr_r1, zr_r2, zr_w0, zr_w1, zr_tl, zr_40, zr_41, zr_42, zr_43, d_D_isPerson_0, d_D_isPerson_1, zt_1_13, zo_1_13, d_D_isPerson_4, d_D_isPerson_5, cb_100, d_D_isPerson_7, zt_7_7, zo_7_7, d_D_isPerson_10, ci_1, d_D_isPerson_11, zt_11_4, zo_11_4, d_D_isPerson_14, ci_0, d_D_isPerson_15, za_0, za_i, za_r, za_n, za_l, zu_s, zu_u, Nat.reduceAdd, Nat.reduceLT, Nat.reduceBEq, Nat.zero_add, Bool.false_or, Bool.or_false, Bool.true_or, Bool.or_true, Bool.false_and, Bool.and_false, Bool.true_and, Bool.and_true, true_and, and_true, true_or, or_true, eq_self, Nat.le_refl, List.getElem?_cons_succ, List.getElem?_cons_zero, List.set_cons_succ, List.set_cons_zero, zk_0, zk_1, zk_2, zk_3, zk_4, zq_1, zq_2, Option.isSome_some, Option.getD_some, Option.toList_some, Option.toList_none, List.cons_append, List.nil_append]
  clear C hR
  (repeat' first | apply And.intro | intro _) <;> first | (rw [zb_t (by (simp only [Int32.lt_iff_toInt_lt, Int32.le_iff_toInt_le, ← Int32.toInt_inj, Int32.reduceToInt] at *; omega))]; done) | (rw [zb_f (by (simp only [Int32.lt_iff_toInt_lt, Int32.le_iff_toInt_le, ← Int32.toInt_inj, Int32.reduceToInt] at *; omega))]; done)
set_option maxHeartbeats 4000000 in
set_option maxRecDepth 100000 in
/-- isDevice -/
theorem c_D_isDevice (l : Launch) (D : va_G) (dA : Nat → ClassId) (z : Nat) (M : zVw) (p0 : Int32) : zMet l y_D_isDevice b_D_isDevice 1 (some .boolean) 0 0 0 0 D dA z [.int p0] M (fun v M' => M' = M ∧ v = some (.int (zb (0 ≤ p0 ∧ p0 < 8)))) := by
  refine z_of 2 false (by decide) (fun h => by first | rfl | cases h) (Nat.le_of_ble_eq_true rfl) trivial ?_
  intro p e s m args below meth c C hR
  refine zgo (cut := fun _ => false) 60 C lk_D hR ?_
  simp only [zs_iconst, zs_bipush, zs_iload_n, zs_if_lt, zs_icmp_ge, zs_goto, zs_ireturn, zx_iv, zx_is, zx_it, zx_nw, zx_na, zx_an, zx_cc, zx_gs, zx_as, zx_ae, zx_ac, zx_at, zr_seg, zr_t, zr_f, zr_tp, zr_fp, zr_lg, zr_lr, zr_lr0, zr_wi, zr_wr, zr_wn, zr_wl, zr_vo, zr_so, zr_sI, zr_sL, zr_sA, zr_sN, zr_in, zr_rd, zr_wr2, zr_kf, zr_k0, zr_k1, zr_k2, zr_k3, zr_k3n, zr_k10, zr_k11, zr_k12, zr_k13, zr_k13n, zr_ai, zr_af, zr_aw, zr_aL, zr_Lf, zr_Lw, zr_l2, zr_l20, zr_al, zr_an, zr_aq, zr_ag, zr_rfs, zr_rfn, zr_r1, zr_r2, zr_w0, zr_w1, zr_tl, zr_40, zr_41, zr_42, zr_43, d_D_isDevice_0, d_D_isDevice_1, zt_1_13, zo_1_13, d_D_isDevice_4, d_D_isDevice_5, cb_8, d_D_isDevice_7, zt_7_7, zo_7_7, d_D_isDevice_10, ci_1, d_D_isDevice_11, zt_11_4, zo_11_4, d_D_isDevice_14, ci_0, d_D_isDevice_15, za_0, za_i, za_r, za_n, za_l, zu_s, zu_u, Nat.reduceAdd, Nat.reduceLT, Nat.reduceBEq, Nat.zero_add, Bool.false_or, Bool.or_false, Bool.true_or, Bool.or_true, Bool.false_and, Bool.and_false, Bool.true_and, Bool.and_true, true_and, and_true, true_or, or_true, eq_self, Nat.le_refl, List.getElem?_cons_succ, List.getElem?_cons_zero, List.set_cons_succ, List.set_cons_zero, zk_0, zk_1, zk_2, zk_3, zk_4, zq_1, zq_2, Option.isSome_some, Option.getD_some, Option.toList_some, Option.toList_none, List.cons_append, List.nil_append]
  clear C hR
  (repeat' first | apply And.intro | intro _) <;> first | (rw [zb_t (by (simp only [Int32.lt_iff_toInt_lt, Int32.le_iff_toInt_le, ← Int32.toInt_inj, Int32.reduceToInt] at *; omega))]; done) | (rw [zb_f (by (simp only [Int32.lt_iff_toInt_lt, Int32.le_iff_toInt_le, ← Int32.toInt_inj, Int32.reduceToInt] at *; omega))]; done)
set_option maxHeartbeats 4000000 in
set_option maxRecDepth 100000 in
/-- the reference's isDevice -/
theorem c_M_isDevice (l : Launch) (D : va_G) (dA : Nat → ClassId) (z : Nat) (M : zVw) (p0 : Int32) : zMet l y_M_isDevice b_M_isDevice 1 (some .boolean) 0 0 0 0 D dA z [.int p0] M (fun v M' => M' = M ∧ v = some (.int (zb (0 ≤ p0 ∧ p0 < 8)))) := by
  refine z_of 2 false (by decide) (fun h => by first | rfl | cases h) (Nat.le_of_ble_eq_true rfl) trivial ?_
  intro p e s m args below meth c C hR
  refine zgo (cut := fun _ => false) 60 C lk_M hR ?_
  simp only [zs_iconst, zs_bipush, zs_iload_n, zs_if_lt, zs_icmp_ge, zs_goto, zs_ireturn, zx_iv, zx_is, zx_it, zx_nw, zx_na, zx_an, zx_cc, zx_gs, zx_as, zx_ae, zx_ac, zx_at, zr_seg, zr_t, zr_f, zr_tp, zr_fp, zr_lg, zr_lr, zr_lr0, zr_wi, zr_wr, zr_wn, zr_wl, zr_vo, zr_so, zr_sI, zr_sL, zr_sA, zr_sN, zr_in, zr_rd, zr_wr2, zr_kf, zr_k0, zr_k1, zr_k2, zr_k3, zr_k3n, zr_k10, zr_k11, zr_k12, zr_k13, zr_k13n, zr_ai, zr_af, zr_aw, zr_aL, zr_Lf, zr_Lw, zr_l2, zr_l20, zr_al, zr_an, zr_aq, zr_ag, zr_rfs, zr_rfn, zr_r1, zr_r2, zr_w0, zr_w1, zr_tl, zr_40, zr_41, zr_42, zr_43, d_M_isDevice_0, d_M_isDevice_1, zt_1_13, zo_1_13, d_M_isDevice_4, d_M_isDevice_5, cb_8, d_M_isDevice_7, zt_7_7, zo_7_7, d_M_isDevice_10, ci_1, d_M_isDevice_11, zt_11_4, zo_11_4, d_M_isDevice_14, ci_0, d_M_isDevice_15, za_0, za_i, za_r, za_n, za_l, zu_s, zu_u, Nat.reduceAdd, Nat.reduceLT, Nat.reduceBEq, Nat.zero_add, Bool.false_or, Bool.or_false, Bool.true_or, Bool.or_true, Bool.false_and, Bool.and_false, Bool.true_and, Bool.and_true, true_and, and_true, true_or, or_true, eq_self, Nat.le_refl, List.getElem?_cons_succ, List.getElem?_cons_zero, List.set_cons_succ, List.set_cons_zero, zk_0, zk_1, zk_2, zk_3, zk_4, zq_1, zq_2, Option.isSome_some, Option.getD_some, Option.toList_some, Option.toList_none, List.cons_append, List.nil_append]
  clear C hR
  (repeat' first | apply And.intro | intro _) <;> first | (rw [zb_t (by (simp only [Int32.lt_iff_toInt_lt, Int32.le_iff_toInt_le, ← Int32.toInt_inj, Int32.reduceToInt] at *; omega))]; done) | (rw [zb_f (by (simp only [Int32.lt_iff_toInt_lt, Int32.le_iff_toInt_le, ← Int32.toInt_inj, Int32.reduceToInt] at *; omega))]; done)
/-- the facts of an item: state, stateBefore, damaged, cards, cardDay, keptTo, handDevice, handDay, taker, slip, latestDevice -/
def fA (F : Nat → Int32) : va_E := .inr (5, [.int (F 0), .int (F 1), .int (F 2), .int (F 3), .int (F 4), .int (F 5), .int (F 6), .int (F 7), .int (F 8), .int (F 9), .int (F 10)])
set_option maxHeartbeats 4000000 in
set_option maxRecDepth 100000 in
/-- Facts.isHandedOver -/
theorem c_F_isHandedOver (l : Launch) (D : va_G) (dA : Nat → ClassId) (z : Nat) (M : zVw) (h : Nat) (F : Nat → Int32) (hM : M h = some (fA F)) : zMet l y_F_isHandedOver b_F_isHandedOver 1 (some .boolean) 0 0 0 0 D dA z [.ref h] M (fun v M' => M' = M ∧ v = some (.int (zb (3 ≤ F 0 ∧ F 0 ≤ 6)))) := by
  refine z_of 2 false (by decide) (fun h => by first | rfl | cases h) (Nat.le_of_ble_eq_true rfl) trivial ?_
  intro p e s m args below meth c C hR
  refine zgo (cut := fun _ => false) 60 C lk_F hR ?_
  simp only [zs_iconst, zs_bipush, zs_aload_n, zs_icmp_lt, zs_icmp_gt, zs_goto, zs_get, zs_ireturn, zx_iv, zx_is, zx_it, zx_nw, zx_na, zx_an, zx_cc, zx_gs, zx_as, zx_ae, zx_ac, zx_at, zr_seg, zr_t, zr_f, zr_tp, zr_fp, zr_lg, zr_lr, zr_lr0, zr_wi, zr_wr, zr_wn, zr_wl, zr_vo, zr_so, zr_sI, zr_sL, zr_sA, zr_sN, zr_in, zr_rd, zr_wr2, zr_kf, zr_k0, zr_k1, zr_k2, zr_k3, zr_k3n, zr_k10, zr_k11, zr_k12, zr_k13, zr_k13n, zr_ai, zr_af, zr_aw, zr_aL, zr_Lf, zr_Lw, zr_l2, zr_l20, zr_al, zr_an, zr_aq, zr_ag, zr_rfs, zr_rfn, zr_r1, zr_r2, zr_w0, zr_w1, zr_tl, zr_40, zr_41, zr_42, zr_43, d_F_isHandedOver_0, d_F_isHandedOver_1, fl_F_9, d_F_isHandedOver_4, ci_3, d_F_isHandedOver_5, zt_5_16, zo_5_16, d_F_isHandedOver_8, d_F_isHandedOver_9, d_F_isHandedOver_12, cb_6, d_F_isHandedOver_14, zt_14_7, zo_14_7, d_F_isHandedOver_17, ci_1, d_F_isHandedOver_18, zt_18_4, zo_18_4, d_F_isHandedOver_21, ci_0, d_F_isHandedOver_22, za_0, za_i, za_r, za_n, za_l, zu_s, zu_u, Nat.reduceAdd, Nat.reduceLT, Nat.reduceBEq, Nat.zero_add, Bool.false_or, Bool.or_false, Bool.true_or, Bool.or_true, Bool.false_and, Bool.and_false, Bool.true_and, Bool.and_true, true_and, and_true, true_or, or_true, eq_self, Nat.le_refl, List.getElem?_cons_succ, List.getElem?_cons_zero, List.set_cons_succ, List.set_cons_zero, zk_0, zk_1, zk_2, zk_3, zk_4, zq_1, zq_2, Option.isSome_some, Option.getD_some, Option.toList_some, Option.toList_none, List.cons_append, List.nil_append, hM, fA]
  clear C hR
  (repeat' first | apply And.intro | intro _) <;> first | (rw [zb_t (by (simp only [Int32.lt_iff_toInt_lt, Int32.le_iff_toInt_le, ← Int32.toInt_inj, Int32.reduceToInt] at *; omega))]; done) | (rw [zb_f (by (simp only [Int32.lt_iff_toInt_lt, Int32.le_iff_toInt_le, ← Int32.toInt_inj, Int32.reduceToInt] at *; omega))]; done)
