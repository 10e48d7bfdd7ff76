/-! The reference: an act made. -/
set_option maxHeartbeats 4000000 in
set_option maxRecDepth 100000 in
theorem c_M_hand (l : Launch) (D : va_G) (dA : Nat → ClassId) (z : Nat) (M : zVw) (rl : Nat → Nat) (B : Nat → Nat) (I : Nat → Nat → Int32) (L : Nat → Nat → Int64) (a : Nat) (st dev who : Int32) (day : Int64) (hr : zRf M rl dA B I L) (h5 : a < 549) : zMet l y_M_hand b_M_hand 7 none 0 0 0 0 D dA z [.ref (B 0), .int (nI a), .int st, .int dev, .int who, .long day] M (fun v M' => v = none ∧ zRg M M' rl dA B (zI (zI (zI (zI I 14 (upd (I 14) a (I 7 a))) 7 (upd (I 7) a st)) 11 (upd (I 11) a who)) 12 (upd (I 12) a dev)) (zI L 13 (vp_updL (L 13) a day))) := by
  have h0 := rf_0 hr
  have h7 := rf_7 hr
  have h11 := rf_11 hr
  have h12 := rf_12 hr
  have h13 := rf_13 hr
  have h14 := rf_14 hr
  have n_0_7 := rf_ne hr (i := 0) (j := 7) (by decide) (by decide) (by decide)
  have n_0_11 := rf_ne hr (i := 0) (j := 11) (by decide) (by decide) (by decide)
  have n_0_12 := rf_ne hr (i := 0) (j := 12) (by decide) (by decide) (by decide)
  have n_0_13 := rf_ne hr (i := 0) (j := 13) (by decide) (by decide) (by decide)
  have n_0_14 := rf_ne hr (i := 0) (j := 14) (by decide) (by decide) (by decide)
  have n_7_11 := rf_ne hr (i := 7) (j := 11) (by decide) (by decide) (by decide)
  have n_7_12 := rf_ne hr (i := 7) (j := 12) (by decide) (by decide) (by decide)
  have n_7_13 := rf_ne hr (i := 7) (j := 13) (by decide) (by decide) (by decide)
  have n_7_14 := rf_ne hr (i := 7) (j := 14) (by decide) (by decide) (by decide)
  have n_11_7 := rf_ne hr (i := 11) (j := 7) (by decide) (by decide) (by decide)
  have n_11_12 := rf_ne hr (i := 11) (j := 12) (by decide) (by decide) (by decide)
  have n_11_13 := rf_ne hr (i := 11) (j := 13) (by decide) (by decide) (by decide)
  have n_11_14 := rf_ne hr (i := 11) (j := 14) (by decide) (by decide) (by decide)
  have n_12_7 := rf_ne hr (i := 12) (j := 7) (by decide) (by decide) (by decide)
  have n_12_11 := rf_ne hr (i := 12) (j := 11) (by decide) (by decide) (by decide)
  have n_12_13 := rf_ne hr (i := 12) (j := 13) (by decide) (by decide) (by decide)
  have n_12_14 := rf_ne hr (i := 12) (j := 14) (by decide) (by decide) (by decide)
  have n_13_7 := rf_ne hr (i := 13) (j := 7) (by decide) (by decide) (by decide)
  have n_13_11 := rf_ne hr (i := 13) (j := 11) (by decide) (by decide) (by decide)
  have n_13_12 := rf_ne hr (i := 13) (j := 12) (by decide) (by decide) (by decide)
  have n_13_14 := rf_ne hr (i := 13) (j := 14) (by decide) (by decide) (by decide)
  have n_14_7 := rf_ne hr (i := 14) (j := 7) (by decide) (by decide) (by decide)
  have n_14_11 := rf_ne hr (i := 14) (j := 11) (by decide) (by decide) (by decide)
  have n_14_12 := rf_ne hr (i := 14) (j := 12) (by decide) (by decide) (by decide)
  have n_14_13 := rf_ne hr (i := 14) (j := 13) (by decide) (by decide) (by decide)
  have e3 : vp_in (nI a) 549 := vp_in_nI h5 (by omega)
  have e4 : (nI a).toNatClampNeg = a := nI_clamp (by omega)
  refine z_of 0 false (by decide) (fun h => by first | rfl | cases h) (Nat.le_of_ble_eq_true rfl) trivial ?_
  intro p e s m args below meth c C hR
  refine zgo (cut := fun _ => false) 60 C lk_M hR ?_
  simp only [zs_iload_n, zs_iload, zs_lload, zs_aload_n, zs_get, zs_iaload, zs_iastore, zs_lastore, zs_return, zx_iv, zx_is, zx_it, zx_nw, zx_na, zx_an, zx_cc, zx_gs, zx_as, zx_ae, zx_ac, zx_at, zr_seg, zr_t, zr_f, zr_tp, zr_fp, zr_lg, zr_lr, zr_lr0, zr_wi, zr_wr, zr_wn, zr_wl, zr_vo, zr_so, zr_sI, zr_sL, zr_sA, zr_sN, zr_in, zr_rd, zr_wr2, zr_kf, zr_k0, zr_k1, zr_k2, zr_k3, zr_k3n, zr_k10, zr_k11, zr_k12, zr_k13, zr_k13n, zr_ai, zr_af, zr_aw, zr_aL, zr_Lf, zr_Lw, zr_l2, zr_l20, zr_al, zr_an, zr_aq, zr_ag, zr_rfs, zr_rfn, zr_r1, zr_r2, zr_w0, zr_w1, zr_tl, zr_40, zr_41, zr_42, zr_43, d_M_hand_0, d_M_hand_1, fl_M_51, d_M_hand_4, d_M_hand_5, d_M_hand_6, fl_M_30, d_M_hand_9, d_M_hand_10, d_M_hand_11, d_M_hand_12, d_M_hand_13, d_M_hand_16, d_M_hand_17, d_M_hand_18, d_M_hand_19, d_M_hand_20, fl_M_42, d_M_hand_23, d_M_hand_24, d_M_hand_26, d_M_hand_27, d_M_hand_28, fl_M_45, d_M_hand_31, d_M_hand_32, d_M_hand_33, d_M_hand_34, d_M_hand_35, fl_M_48, d_M_hand_38, d_M_hand_39, d_M_hand_41, d_M_hand_42, za_0, za_i, za_r, za_n, za_l, zu_s, zu_u, Nat.reduceAdd, Nat.reduceLT, Nat.reduceBEq, Nat.zero_add, Bool.false_or, Bool.or_false, Bool.true_or, Bool.or_true, Bool.false_and, Bool.and_false, Bool.true_and, Bool.and_true, true_and, and_true, true_or, or_true, eq_self, Nat.le_refl, List.getElem?_cons_succ, List.getElem?_cons_zero, List.set_cons_succ, List.set_cons_zero, zk_0, zk_1, zk_2, zk_3, zk_4, zq_1, zq_2, Option.isSome_some, Option.getD_some, Option.toList_some, Option.toList_none, List.cons_append, List.nil_append, h0, h7, h11, h12, h13, h14, zu_n n_0_7, zu_n n_0_11, zu_n n_0_12, zu_n n_0_13, zu_n n_0_14, zu_n n_7_11, zu_n n_7_12, zu_n n_7_13, zu_n n_7_14, zu_n n_11_7, zu_n n_11_12, zu_n n_11_13, zu_n n_11_14, zu_n n_12_7, zu_n n_12_11, zu_n n_12_13, zu_n n_12_14, zu_n n_13_7, zu_n n_13_11, zu_n n_13_12, zu_n n_13_14, zu_n n_14_7, zu_n n_14_11, zu_n n_14_12, zu_n n_14_13, e3, e4, true_implies, false_implies, not_true_eq_false, not_false_eq_true, zn_10, Int32.reduceLT, Int32.reduceLE, implies_true, and_self]
  exact rg_l 13 (rg_i 12 (rg_i 11 (rg_i 7 (rg_i 14 (rg_0 hr) rfl) rfl) rfl) rfl) rfl
/-- what an act leaves alone -/
def zSm (I : Nat → Nat → Int32) (L : Nat → Nat → Int64) (I' : Nat → Nat → Int32) (L' : Nat → Nat → Int64) (a n tb1 : Nat) (dev kind : Int32) : Prop :=
  (I' 0 = I 0 ∧ I' 1 = I 1 ∧ I' 2 = I 2 ∧ I' 17 = I 17 ∧ I' 18 = I 18 ∧ I' 19 = I 19 ∧ I' 20 = I 20 ∧ I' 21 = I 21 ∧ I' 23 = I 23 ∧ I' 24 = I 24 ∧ I' 25 = I 25 ∧ I' 26 = I 26 ∧ I' 27 = I 27 ∧ I' 30 = I 30 ∧ I' 31 = I 31 ∧ I' 32 = I 32) ∧ (L' 0 = L 0 ∧ L' 3 = L 3 ∧ L' 22 = L 22 ∧ L' 28 = L 28) ∧
  (∀ x, x ≠ a → I' 7 x = I 7 x ∧ I' 8 x = I 8 x ∧ I' 11 x = I 11 x ∧ I' 12 x = I 12 x ∧ I' 14 x = I 14 x ∧ I' 15 x = I 15 x ∧ L' 9 x = L 9 x ∧ L' 10 x = L 10 x ∧ L' 13 x = L 13 x) ∧
  (∀ x, x ≠ n → I' 4 x = I 4 x ∧ I' 5 x = I 5 x ∧ I' 6 x = I 6 x) ∧ (tb1 ≠ 8 → I' 4 = I 4 ∧ I' 5 = I 5 ∧ I' 6 = I 6) ∧ (tb1 = 8 → I' 4 n = dev ∧ (kind = 4 → I' 5 n = 0 ∧ I' 6 n = 0) ∧ (kind ≠ 4 → I' 5 n = I 5 n ∧ I' 6 n = I 6 n))
section MK
variable {I : Nat → Nat → Int32} {L : Nat → Nat → Int64} {a n tb1 : Nat} {F R : Nat → Int32} {sv : Int32}
theorem fch_1 (h : R 2 = 1) : fChange F R = fCard (upd F 10 (R 1)) (R 5) := by unfold fChange; rw [if_pos h]
theorem fch_2 (h : R 2 = 2) : fChange F R = upd (upd F 10 (R 1)) 0 7 := by unfold fChange; rw [if_neg (by rw [h]; decide), if_pos h]
theorem fch_3 (h : R 2 = 3) : fChange F R = upd (upd F 10 (R 1)) 2 1 := by unfold fChange; rw [if_neg (by rw [h]; decide), if_neg (by rw [h]; decide), if_pos h]
theorem fch_4 (h : R 2 = 4) : fChange F R = upd (upd (upd F 10 (R 1)) 0 (F 1)) 9 0 := by unfold fChange; rw [if_neg (by rw [h]; decide), if_neg (by rw [h]; decide), if_neg (by rw [h]; decide), if_pos h]
theorem fch_0 (h : R 2 = 0 ∨ R 2 = 5) : fChange F R = fHand (upd F 10 (R 1)) R := by
  unfold fChange
  rcases h with h | h <;> rw [if_neg (by rw [h]; decide), if_neg (by rw [h]; decide), if_neg (by rw [h]; decide), if_neg (by rw [h]; decide)]
/-- kinds 0 and 5 -/
theorem mk_0 (hw : zRow I L a F sv) (hk : R 2 = 0 ∨ R 2 = 5) (hF : F 0 ≤ 2) {st who : Int32} (hst : st = 3 + R 4 - 1) (hwho : sv ≠ 0 → who = R 3) : zRow (zI (zI (zI (zI I 14 (upd (I 14) a (I 7 a))) 7 (upd (I 7) a st)) 11 (upd (I 11) a who)) 12 (upd (I 12) a (R 1))) (zI L 13 (vp_updL (L 13) a (R 5).toInt64)) a (fChange F R) sv := by
  obtain ⟨w0, w1, w2, w3, w4, w5, w6, w7⟩ := hw
  rw [fch_0 hk]
  refine ⟨?_, ?_, w2, w3, w4, w5, fun _ => ⟨upd_s _ _ _, updL_s _ _ _, fun u => ?_⟩, hF⟩
  · show upd (I 7) a st a = 3 + R 4 - 1
    rw [upd_s]; exact hst
  · show upd (I 14) a (I 7 a) a = F 0
    rw [upd_s]; exact w0
  · show upd (I 11) a who a = R 3
    rw [upd_s]; exact hwho u
theorem mk_1a (hw : zRow I L a F sv) (hk : R 2 = 1) (hF : F 0 = 0) : zRow (zI (zI I 7 (upd (I 7) a (I 7 a + 1))) 8 (upd (I 8) a (I 8 a + 1))) (zI L 9 (vp_updL (L 9) a (R 5).toInt64)) a (fChange F R) sv := by
  obtain ⟨w0, w1, w2, w3, w4, w5, w6, w7⟩ := hw
  have e : fChange F R = upd (upd (upd (upd F 10 (R 1)) 3 (F 3 + 1)) 0 1) 4 (R 5) := by
    rw [fch_1 hk]; unfold fCard; rw [if_pos (show upd F 10 (R 1) 0 = 0 from hF)]; rfl
  rw [e]
  refine ⟨?_, w1, w2, ?_, updL_s _ _ _, w5, fun u => absurd (show (3 : Int32) ≤ 1 from u.1) (by decide), w7⟩
  · show upd (I 7) a (I 7 a + 1) a = 1
    rw [upd_s, w0, hF]; rfl
  · show upd (I 8) a (I 8 a + 1) a = F 3 + 1
    rw [upd_s, w3]
theorem day_7 {d : Int32} (h : 0 ≤ d ∧ d ≤ 1000000) : d.toInt64 + 7 = (d + 7).toInt64 := by
  have h1 := Int32.le_iff_toInt_le.mp h.1
  have h2 := Int32.le_iff_toInt_le.mp h.2
  rw [show (0 : Int32).toInt = 0 from rfl] at h1
  rw [show (1000000 : Int32).toInt = 1000000 from rfl] at h2
  have a : (d + 7).toInt = d.toInt + 7 := by
    rw [Int32.toInt_add, show (7 : Int32).toInt = 7 from rfl, Int.bmod_eq_of_le (by omega) (by omega)]
  rw [← Int64.toInt_inj, Int64.toInt_add, Int32.toInt_toInt64, Int32.toInt_toInt64, a, show (7 : Int64).toInt = 7 from rfl, Int.bmod_eq_of_le (by omega) (by omega)]
theorem mk_1b (hw : zRow I L a F sv) (hk : R 2 = 1) (hF : F 0 = 1) (hd : 0 ≤ R 5 ∧ R 5 ≤ 1000000) : zRow (zI (zI I 7 (upd (I 7) a (I 7 a + 1))) 8 (upd (I 8) a (I 8 a + 1))) (zI L 10 (vp_updL (L 10) a ((R 5).toInt64 + 7))) a (fChange F R) sv := by
  obtain ⟨w0, w1, w2, w3, w4, w5, w6, w7⟩ := hw
  have e : fChange F R = upd (upd (upd (upd F 10 (R 1)) 3 (F 3 + 1)) 0 2) 5 (R 5 + 7) := by
    rw [fch_1 hk]; unfold fCard; rw [if_neg (show ¬ upd F 10 (R 1) 0 = 0 from fun u => by rw [show upd F 10 (R 1) 0 = F 0 from rfl, hF] at u; revert u; decide)]; rfl
  rw [e]
  refine ⟨?_, w1, w2, ?_, w4, ?_, fun u => absurd (show (3 : Int32) ≤ 2 from u.1) (by decide), w7⟩
  · show upd (I 7) a (I 7 a + 1) a = 2
    rw [upd_s, w0, hF]; rfl
  · show upd (I 8) a (I 8 a + 1) a = F 3 + 1
    rw [upd_s, w3]
  · show vp_updL (L 10) a ((R 5).toInt64 + 7) a = (R 5 + 7).toInt64
    rw [updL_s, day_7 hd]
theorem mk_2 (hw : zRow I L a F sv) (hk : R 2 = 2) : zRow (zI I 7 (upd (I 7) a 7)) L a (fChange F R) sv := by
  obtain ⟨w0, w1, w2, w3, w4, w5, w6, w7⟩ := hw
  rw [fch_2 hk]
  exact ⟨upd_s _ _ _, w1, w2, w3, w4, w5, fun u => absurd (show (7 : Int32) ≤ 6 from u.2) (by decide), w7⟩
theorem mk_3 (hw : zRow I L a F sv) (hk : R 2 = 3) : zRow (zI I 15 (upd (I 15) a 1)) L a (fChange F R) sv := by
  obtain ⟨w0, w1, w2, w3, w4, w5, w6, w7⟩ := hw
  rw [fch_3 hk]
  exact ⟨w0, w1, upd_s _ _ _, w3, w4, w5, w6, w7⟩
theorem mk_4 (hw : zRow I L a F sv) (hk : R 2 = 4) : zRow (zI (zI (zI I 7 (upd (I 7) a (I 14 a))) 11 (upd (I 11) a (-1))) 12 (upd (I 12) a (-1))) L a (fChange F R) sv := by
  obtain ⟨w0, w1, w2, w3, w4, w5, w6, w7⟩ := hw
  rw [fch_4 hk]
  refine ⟨?_, w1, w2, w3, w4, w5, fun u => absurd (show 3 ≤ F 1 from u.1) (by (simp only [Int32.lt_iff_toInt_lt, Int32.le_iff_toInt_le, ← Int32.toInt_inj, Int32.reduceToInt] at *; omega)), w7⟩
  show upd (I 7) a (I 14 a) a = F 1
  rw [upd_s, w1]
end MK
theorem fal_h {F : Nat → Int32} {k d y : Int32} (h : fAllow F k d y) (hk : k = 0 ∨ k = 5) : F 0 ≤ 2 := by
  rcases h with u | u | u | u | u | u
  · exact u.2
  · exact u.2
  · rw [u.1] at hk; exact absurd hk (by decide)
  · rw [u.1] at hk; exact absurd hk (by decide)
  · rw [u.1] at hk; exact absurd hk (by decide)
  · have u := u.2; clear hk; (simp only [Int32.lt_iff_toInt_lt, Int32.le_iff_toInt_le, ← Int32.toInt_inj, Int32.reduceToInt] at *; omega)
set_option maxHeartbeats 4000000 in
set_option maxRecDepth 100000 in
theorem c_M_make (l : Launch) (D : va_G) (dA : Nat → ClassId) (z : Nat) (M : zVw) (rl : Nat → Nat) (B : Nat → Nat) (I : Nat → Nat → Int32) (L : Nat → Nat → Int64) (tb1 n a : Nat) (F R : Nat → Int32) (sv : Int32) (hr : zRf M rl dA B I L) (hn : n < 61) (ht : tb1 ≤ 8) (ha : a = 61 * tb1 + n) (ha5 : a < 549) (hw : zRow I L a F sv) (hal : fAllow F (R 2) (R 1) (R 5)) (hok : zOk (R 2) (R 4) sv) (hd : 0 ≤ R 5 ∧ R 5 ≤ 1000000) : zMet l y_M_make b_M_make 10 none 1 26 0 0 D dA z [.ref (B 0), .int (nI tb1), .int (nI n), .int (R 2), .int (R 4), .int (R 1), .int (R 3), .long (R 5).toInt64] M (fun v M' => v = none ∧ ∃ I' L', zRg M M' rl dA B I' L' ∧ zRow I' L' a (fChange F R) sv ∧ zSm I L I' L' a n tb1 (R 1) (R 2)) := by
  have h0 := rf_0 hr
  have h4 := rf_4 hr
  have h5 := rf_5 hr
  have h6 := rf_6 hr
  have h7 := rf_7 hr
  have h8 := rf_8 hr
  have h9 := rf_9 hr
  have h10 := rf_10 hr
  have h11 := rf_11 hr
  have h12 := rf_12 hr
  have h14 := rf_14 hr
  have h15 := rf_15 hr
  have n_0_5 := rf_ne hr (i := 0) (j := 5) (by decide) (by decide) (by decide)
  have n_0_6 := rf_ne hr (i := 0) (j := 6) (by decide) (by decide) (by decide)
  have n_0_7 := rf_ne hr (i := 0) (j := 7) (by decide) (by decide) (by decide)
  have n_0_8 := rf_ne hr (i := 0) (j := 8) (by decide) (by decide) (by decide)
  have n_0_9 := rf_ne hr (i := 0) (j := 9) (by decide) (by decide) (by decide)
  have n_0_10 := rf_ne hr (i := 0) (j := 10) (by decide) (by decide) (by decide)
  have n_0_11 := rf_ne hr (i := 0) (j := 11) (by decide) (by decide) (by decide)
  have n_0_12 := rf_ne hr (i := 0) (j := 12) (by decide) (by decide) (by decide)
  have n_0_15 := rf_ne hr (i := 0) (j := 15) (by decide) (by decide) (by decide)
  have n_4_5 := rf_ne hr (i := 4) (j := 5) (by decide) (by decide) (by decide)
  have n_4_6 := rf_ne hr (i := 4) (j := 6) (by decide) (by decide) (by decide)
  have n_4_7 := rf_ne hr (i := 4) (j := 7) (by decide) (by decide) (by decide)
  have n_4_8 := rf_ne hr (i := 4) (j := 8) (by decide) (by decide) (by decide)
  have n_4_9 := rf_ne hr (i := 4) (j := 9) (by decide) (by decide) (by decide)
  have n_4_10 := rf_ne hr (i := 4) (j := 10) (by decide) (by decide) (by decide)
  have n_4_11 := rf_ne hr (i := 4) (j := 11) (by decide) (by decide) (by decide)
  have n_4_12 := rf_ne hr (i := 4) (j := 12) (by decide) (by decide) (by decide)
  have n_4_15 := rf_ne hr (i := 4) (j := 15) (by decide) (by decide) (by decide)
  have n_5_6 := rf_ne hr (i := 5) (j := 6) (by decide) (by decide) (by decide)
  have n_5_7 := rf_ne hr (i := 5) (j := 7) (by decide) (by decide) (by decide)
  have n_5_8 := rf_ne hr (i := 5) (j := 8) (by decide) (by decide) (by decide)
  have n_5_9 := rf_ne hr (i := 5) (j := 9) (by decide) (by decide) (by decide)
  have n_5_10 := rf_ne hr (i := 5) (j := 10) (by decide) (by decide) (by decide)
  have n_5_11 := rf_ne hr (i := 5) (j := 11) (by decide) (by decide) (by decide)
  have n_5_12 := rf_ne hr (i := 5) (j := 12) (by decide) (by decide) (by decide)
  have n_5_15 := rf_ne hr (i := 5) (j := 15) (by decide) (by decide) (by decide)
  have n_6_5 := rf_ne hr (i := 6) (j := 5) (by decide) (by decide) (by decide)
  have n_6_7 := rf_ne hr (i := 6) (j := 7) (by decide) (by decide) (by decide)
  have n_6_8 := rf_ne hr (i := 6) (j := 8) (by decide) (by decide) (by decide)
  have n_6_9 := rf_ne hr (i := 6) (j := 9) (by decide) (by decide) (by decide)
  have n_6_10 := rf_ne hr (i := 6) (j := 10) (by decide) (by decide) (by decide)
  have n_6_11 := rf_ne hr (i := 6) (j := 11) (by decide) (by decide) (by decide)
  have n_6_12 := rf_ne hr (i := 6) (j := 12) (by decide) (by decide) (by decide)
  have n_6_15 := rf_ne hr (i := 6) (j := 15) (by decide) (by decide) (by decide)
  have n_7_5 := rf_ne hr (i := 7) (j := 5) (by decide) (by decide) (by decide)
  have n_7_6 := rf_ne hr (i := 7) (j := 6) (by decide) (by decide) (by decide)
  have n_7_8 := rf_ne hr (i := 7) (j := 8) (by decide) (by decide) (by decide)
  have n_7_9 := rf_ne hr (i := 7) (j := 9) (by decide) (by decide) (by decide)
  have n_7_10 := rf_ne hr (i := 7) (j := 10) (by decide) (by decide) (by decide)
  have n_7_11 := rf_ne hr (i := 7) (j := 11) (by decide) (by decide) (by decide)
  have n_7_12 := rf_ne hr (i := 7) (j := 12) (by decide) (by decide) (by decide)
  have n_7_15 := rf_ne hr (i := 7) (j := 15) (by decide) (by decide) (by decide)
  have n_8_5 := rf_ne hr (i := 8) (j := 5) (by decide) (by decide) (by decide)
  have n_8_6 := rf_ne hr (i := 8) (j := 6) (by decide) (by decide) (by decide)
  have n_8_7 := rf_ne hr (i := 8) (j := 7) (by decide) (by decide) (by decide)
  have n_8_9 := rf_ne hr (i := 8) (j := 9) (by decide) (by decide) (by decide)
  have n_8_10 := rf_ne hr (i := 8) (j := 10) (by decide) (by decide) (by decide)
  have n_8_11 := rf_ne hr (i := 8) (j := 11) (by decide) (by decide) (by decide)
  have n_8_12 := rf_ne hr (i := 8) (j := 12) (by decide) (by decide) (by decide)
  have n_8_15 := rf_ne hr (i := 8) (j := 15) (by decide) (by decide) (by decide)
  have n_9_5 := rf_ne hr (i := 9) (j := 5) (by decide) (by decide) (by decide)
  have n_9_6 := rf_ne hr (i := 9) (j := 6) (by decide) (by decide) (by decide)
  have n_9_7 := rf_ne hr (i := 9) (j := 7) (by decide) (by decide) (by decide)
  have n_9_8 := rf_ne hr (i := 9) (j := 8) (by decide) (by decide) (by decide)
  have n_9_10 := rf_ne hr (i := 9) (j := 10) (by decide) (by decide) (by decide)
  have n_9_11 := rf_ne hr (i := 9) (j := 11) (by decide) (by decide) (by decide)
  have n_9_12 := rf_ne hr (i := 9) (j := 12) (by decide) (by decide) (by decide)
  have n_9_15 := rf_ne hr (i := 9) (j := 15) (by decide) (by decide) (by decide)
  have n_10_5 := rf_ne hr (i := 10) (j := 5) (by decide) (by decide) (by decide)
  have n_10_6 := rf_ne hr (i := 10) (j := 6) (by decide) (by decide) (by decide)
  have n_10_7 := rf_ne hr (i := 10) (j := 7) (by decide) (by decide) (by decide)
  have n_10_8 := rf_ne hr (i := 10) (j := 8) (by decide) (by decide) (by decide)
  have n_10_9 := rf_ne hr (i := 10) (j := 9) (by decide) (by decide) (by decide)
  have n_10_11 := rf_ne hr (i := 10) (j := 11) (by decide) (by decide) (by decide)
  have n_10_12 := rf_ne hr (i := 10) (j := 12) (by decide) (by decide) (by decide)
  have n_10_15 := rf_ne hr (i := 10) (j := 15) (by decide) (by decide) (by decide)
  have n_11_5 := rf_ne hr (i := 11) (j := 5) (by decide) (by decide) (by decide)
  have n_11_6 := rf_ne hr (i := 11) (j := 6) (by decide) (by decide) (by decide)
  have n_11_7 := rf_ne hr (i := 11) (j := 7) (by decide) (by decide) (by decide)
  have n_11_8 := rf_ne hr (i := 11) (j := 8) (by decide) (by decide) (by decide)
  have n_11_9 := rf_ne hr (i := 11) (j := 9) (by decide) (by decide) (by decide)
  have n_11_10 := rf_ne hr (i := 11) (j := 10) (by decide) (by decide) (by decide)
  have n_11_12 := rf_ne hr (i := 11) (j := 12) (by decide) (by decide) (by decide)
  have n_11_15 := rf_ne hr (i := 11) (j := 15) (by decide) (by decide) (by decide)
  have n_12_5 := rf_ne hr (i := 12) (j := 5) (by decide) (by decide) (by decide)
  have n_12_6 := rf_ne hr (i := 12) (j := 6) (by decide) (by decide) (by decide)
  have n_12_7 := rf_ne hr (i := 12) (j := 7) (by decide) (by decide) (by decide)
  have n_12_8 := rf_ne hr (i := 12) (j := 8) (by decide) (by decide) (by decide)
  have n_12_9 := rf_ne hr (i := 12) (j := 9) (by decide) (by decide) (by decide)
  have n_12_10 := rf_ne hr (i := 12) (j := 10) (by decide) (by decide) (by decide)
  have n_12_11 := rf_ne hr (i := 12) (j := 11) (by decide) (by decide) (by decide)
  have n_12_15 := rf_ne hr (i := 12) (j := 15) (by decide) (by decide) (by decide)
  have n_14_5 := rf_ne hr (i := 14) (j := 5) (by decide) (by decide) (by decide)
  have n_14_6 := rf_ne hr (i := 14) (j := 6) (by decide) (by decide) (by decide)
  have n_14_7 := rf_ne hr (i := 14) (j := 7) (by decide) (by decide) (by decide)
  have n_14_8 := rf_ne hr (i := 14) (j := 8) (by decide) (by decide) (by decide)
  have n_14_9 := rf_ne hr (i := 14) (j := 9) (by decide) (by decide) (by decide)
  have n_14_10 := rf_ne hr (i := 14) (j := 10) (by decide) (by decide) (by decide)
  have n_14_11 := rf_ne hr (i := 14) (j := 11) (by decide) (by decide) (by decide)
  have n_14_12 := rf_ne hr (i := 14) (j := 12) (by decide) (by decide) (by decide)
  have n_14_15 := rf_ne hr (i := 14) (j := 15) (by decide) (by decide) (by decide)
  have n_15_5 := rf_ne hr (i := 15) (j := 5) (by decide) (by decide) (by decide)
  have n_15_6 := rf_ne hr (i := 15) (j := 6) (by decide) (by decide) (by decide)
  have n_15_7 := rf_ne hr (i := 15) (j := 7) (by decide) (by decide) (by decide)
  have n_15_8 := rf_ne hr (i := 15) (j := 8) (by decide) (by decide) (by decide)
  have n_15_9 := rf_ne hr (i := 15) (j := 9) (by decide) (by decide) (by decide)
  have n_15_10 := rf_ne hr (i := 15) (j := 10) (by decide) (by decide) (by decide)
  have n_15_11 := rf_ne hr (i := 15) (j := 11) (by decide) (by decide) (by decide)
  have n_15_12 := rf_ne hr (i := 15) (j := 12) (by decide) (by decide) (by decide)
  have e1 : vp_in (nI n) 61 := vp_in_nI (by omega) (by omega)
  have e2 : (nI n).toNatClampNeg = n := nI_clamp (by omega)
  have e3 : vp_in (nI a) 549 := vp_in_nI ha5 (by omega)
  have e4 : (nI a).toNatClampNeg = a := nI_clamp (by omega)
  have e5 := at_e tb1 n
  rw [← ha] at e5
  have e8 : nI tb1 = 8 ↔ tb1 = 8 := nI_eq (b := 8) (by omega) (by omega)
  have kk : ∀ x : Int32, (R 2).toInt = x.toInt → R 2 = x := fun x q => Int32.toInt_inj.mp q
  refine z_of 0 false (by decide) (fun h => by first | rfl | cases h) (Nat.le_of_ble_eq_true rfl) trivial ?_
  intro p e s m args below meth c C hR
  have t213 : ∀ (M1 : zVw) (I1 : Nat → Nat → Int32) (L1 : Nat → Nat → Int64), zRg M M1 rl dA B I1 L1 → (tb1 ≠ 8 → zRow I1 L1 a (fChange F R) sv ∧ zSm I L I1 L1 a n tb1 (R 1) (R 2)) → (tb1 = 8 → zRow I1 L1 a (fChange F R) sv ∧ zSm I L (zI I1 4 (upd (I1 4) n (R 1))) L1 a n tb1 (R 1) (R 2)) → zJ p l e (zR 1 26 0 0) s m args below meth c (MQ below (zQ D dA z (fun v M' => v = none ∧ ∃ I' L', zRg M M' rl dA B I' L' ∧ zRow I' L' a (fChange F R) sv ∧ zSm I L I' L' a n tb1 (R 1) (R 2))) args s 0 0 (fun q => z ≤ q)) 10 z D 213 [(9, .int (nI a)), (0, .ref (B 0)), (1, .int (nI tb1)), (2, .int (nI n)), (3, .int (R 2)), (4, .int (R 4)), (5, .int (R 1)), (6, .int (R 3)), (7, .long (R 5).toInt64)] [] M1 0 0 := by
    intro M1 I1 L1 g1 g2 g3
    have k0 := rf_0 g1.1
    have k4 := rf_4 g1.1
    refine zgo (cut := fun _ => false) 60 C lk_M hR ?_
    simp only [zs_iconst, zs_bipush, zs_ldc2, zs_iload_n, zs_iload, zs_lload, zs_aload_n, zs_istore, zs_iadd, zs_imul, zs_ladd, zs_dup2, zs_icmp_ne, zs_goto, zs_tsw, zs_get, zs_iaload, zs_iastore, zs_lastore, zs_bastore, zs_return, zx_iv, zx_is, zx_it, zx_nw, zx_na, zx_an, zx_cc, zx_gs, zx_as, zx_ae, zx_ac, zx_at, zr_seg, zr_t, zr_f, zr_tp, zr_fp, zr_lg, zr_lr, zr_lr0, zr_wi, zr_wr, zr_wn, zr_wl, zr_vo, zr_so, zr_sI, zr_sL, zr_sA, zr_sN, zr_in, zr_rd, zr_wr2, zr_kf, zr_k0, zr_k1, zr_k2, zr_k3, zr_k3n, zr_k10, zr_k11, zr_k12, zr_k13, zr_k13n, zr_ai, zr_af, zr_aw, zr_aL, zr_Lf, zr_Lw, zr_l2, zr_l20, zr_al, zr_an, zr_aq, zr_ag, zr_rfs, zr_rfn, zr_r1, zr_r2, zr_w0, zr_w1, zr_tl, zr_40, zr_41, zr_42, zr_43, d_M_make_0, cb_61, d_M_make_2, d_M_make_3, d_M_make_4, d_M_make_5, d_M_make_6, d_M_make_8, d_M_make_9, sw_0, sw_1, sw_2, sw_3, sw_4, sw_5, sw_6, Int.reduceAdd, Int.zero_add, zt_9_191, zo_9_191, zt_9_35, zo_9_35, zt_9_54, zo_9_54, zt_9_115, zo_9_115, zt_9_127, zo_9_127, zt_9_138, zo_9_138, d_M_make_44, d_M_make_45, d_M_make_47, ci_2, d_M_make_48, d_M_make_50, d_M_make_51, d_M_make_53, d_M_make_55, d_M_make_57, d_M_make_60, zt_60_153, zo_60_153, d_M_make_63, d_M_make_64, fl_M_30, d_M_make_67, d_M_make_69, d_M_make_70, d_M_make_71, ci_1, d_M_make_72, d_M_make_73, d_M_make_74, d_M_make_75, fl_M_33, d_M_make_78, d_M_make_80, d_M_make_81, d_M_make_82, d_M_make_83, d_M_make_84, d_M_make_85, d_M_make_86, d_M_make_89, d_M_make_91, d_M_make_92, d_M_make_93, zt_93_19, zo_93_19, d_M_make_96, d_M_make_97, fl_M_39, d_M_make_100, d_M_make_102, d_M_make_104, ll_M_141, d_M_make_107, d_M_make_108, d_M_make_109, zt_109_104, zo_109_104, d_M_make_112, d_M_make_113, fl_M_36, d_M_make_116, d_M_make_118, d_M_make_120, d_M_make_121, zt_121_92, zo_121_92, d_M_make_124, d_M_make_125, d_M_make_128, d_M_make_130, cb_7, d_M_make_132, d_M_make_133, zt_133_80, zo_133_80, d_M_make_136, d_M_make_137, fl_M_54, d_M_make_140, d_M_make_142, d_M_make_143, d_M_make_144, zt_144_69, zo_144_69, d_M_make_147, d_M_make_148, d_M_make_151, d_M_make_153, d_M_make_154, fl_M_51, d_M_make_157, d_M_make_159, d_M_make_160, d_M_make_161, d_M_make_162, fl_M_42, d_M_make_165, d_M_make_167, ci_m1, d_M_make_168, d_M_make_169, d_M_make_170, fl_M_45, d_M_make_173, d_M_make_175, d_M_make_176, d_M_make_177, d_M_make_178, cb_8, d_M_make_180, zt_180_33, zo_180_33, d_M_make_183, d_M_make_184, fl_M_23, d_M_make_187, d_M_make_188, ci_0, d_M_make_189, d_M_make_190, d_M_make_191, fl_M_27, d_M_make_194, d_M_make_195, d_M_make_196, d_M_make_197, zt_197_16, zo_197_16, d_M_make_200, d_M_make_201, d_M_make_203, cb_6, d_M_make_205, d_M_make_207, d_M_make_208, d_M_make_210, d_M_make_213, d_M_make_214, d_M_make_216, zt_216_11, zo_216_11, d_M_make_219, d_M_make_220, fl_M_20, d_M_make_223, d_M_make_224, d_M_make_226, d_M_make_227, za_0, za_i, za_r, za_n, za_l, zu_s, zu_u, Nat.reduceAdd, Nat.reduceLT, Nat.reduceBEq, Nat.zero_add, Bool.false_or, Bool.or_false, Bool.true_or, Bool.or_true, Bool.false_and, Bool.and_false, Bool.true_and, Bool.and_true, true_and, and_true, true_or, or_true, eq_self, Nat.le_refl, List.getElem?_cons_succ, List.getElem?_cons_zero, List.set_cons_succ, List.set_cons_zero, zk_0, zk_1, zk_2, zk_3, zk_4, zq_1, zq_2, Option.isSome_some, Option.getD_some, Option.toList_some, Option.toList_none, List.cons_append, List.nil_append, k0, k4, e1, e2, true_implies, false_implies, not_true_eq_false, not_false_eq_true, zn_10, Int32.reduceLT, Int32.reduceLE, implies_true, and_self]
    refine ⟨fun q => ⟨I1, L1, g1, g2 (fun w => q (e8.mpr w))⟩, fun q => ?_⟩
    have g3 := g3 (e8.mp q)
    exact ⟨_, L1, rg_i 4 g1 rfl, g3.1, g3.2⟩
  refine zgo (cut := fun q => q == 213) 60 C lk_M hR ?_
  simp only [zs_iconst, zs_bipush, zs_ldc2, zs_iload_n, zs_iload, zs_lload, zs_aload_n, zs_istore, zs_iadd, zs_imul, zs_ladd, zs_dup2, zs_icmp_ne, zs_goto, zs_tsw, zs_get, zs_iaload, zs_iastore, zs_lastore, zs_bastore, zs_return, zx_iv, zx_is, zx_it, zx_nw, zx_na, zx_an, zx_cc, zx_gs, zx_as, zx_ae, zx_ac, zx_at, zr_seg, zr_t, zr_f, zr_tp, zr_fp, zr_lg, zr_lr, zr_lr0, zr_wi, zr_wr, zr_wn, zr_wl, zr_vo, zr_so, zr_sI, zr_sL, zr_sA, zr_sN, zr_in, zr_rd, zr_wr2, zr_kf, zr_k0, zr_k1, zr_k2, zr_k3, zr_k3n, zr_k10, zr_k11, zr_k12, zr_k13, zr_k13n, zr_ai, zr_af, zr_aw, zr_aL, zr_Lf, zr_Lw, zr_l2, zr_l20, zr_al, zr_an, zr_aq, zr_ag, zr_rfs, zr_rfn, zr_r1, zr_r2, zr_w0, zr_w1, zr_tl, zr_40, zr_41, zr_42, zr_43, d_M_make_0, cb_61, d_M_make_2, d_M_make_3, d_M_make_4, d_M_make_5, d_M_make_6, d_M_make_8, d_M_make_9, sw_0, sw_1, sw_2, sw_3, sw_4, sw_5, sw_6, Int.reduceAdd, Int.zero_add, zt_9_191, zo_9_191, zt_9_35, zo_9_35, zt_9_54, zo_9_54, zt_9_115, zo_9_115, zt_9_127, zo_9_127, zt_9_138, zo_9_138, d_M_make_44, d_M_make_45, d_M_make_47, ci_2, d_M_make_48, d_M_make_50, d_M_make_51, d_M_make_53, d_M_make_55, d_M_make_57, d_M_make_60, zt_60_153, zo_60_153, d_M_make_63, d_M_make_64, fl_M_30, d_M_make_67, d_M_make_69, d_M_make_70, d_M_make_71, ci_1, d_M_make_72, d_M_make_73, d_M_make_74, d_M_make_75, fl_M_33, d_M_make_78, d_M_make_80, d_M_make_81, d_M_make_82, d_M_make_83, d_M_make_84, d_M_make_85, d_M_make_86, d_M_make_89, d_M_make_91, d_M_make_92, d_M_make_93, zt_93_19, zo_93_19, d_M_make_96, d_M_make_97, fl_M_39, d_M_make_100, d_M_make_102, d_M_make_104, ll_M_141, d_M_make_107, d_M_make_108, d_M_make_109, zt_109_104, zo_109_104, d_M_make_112, d_M_make_113, fl_M_36, d_M_make_116, d_M_make_118, d_M_make_120, d_M_make_121, zt_121_92, zo_121_92, d_M_make_124, d_M_make_125, d_M_make_128, d_M_make_130, cb_7, d_M_make_132, d_M_make_133, zt_133_80, zo_133_80, d_M_make_136, d_M_make_137, fl_M_54, d_M_make_140, d_M_make_142, d_M_make_143, d_M_make_144, zt_144_69, zo_144_69, d_M_make_147, d_M_make_148, d_M_make_151, d_M_make_153, d_M_make_154, fl_M_51, d_M_make_157, d_M_make_159, d_M_make_160, d_M_make_161, d_M_make_162, fl_M_42, d_M_make_165, d_M_make_167, ci_m1, d_M_make_168, d_M_make_169, d_M_make_170, fl_M_45, d_M_make_173, d_M_make_175, d_M_make_176, d_M_make_177, d_M_make_178, cb_8, d_M_make_180, zt_180_33, zo_180_33, d_M_make_183, d_M_make_184, fl_M_23, d_M_make_187, d_M_make_188, ci_0, d_M_make_189, d_M_make_190, d_M_make_191, fl_M_27, d_M_make_194, d_M_make_195, d_M_make_196, d_M_make_197, zt_197_16, zo_197_16, d_M_make_200, d_M_make_201, d_M_make_203, cb_6, d_M_make_205, d_M_make_207, d_M_make_208, d_M_make_210, d_M_make_213, d_M_make_214, d_M_make_216, zt_216_11, zo_216_11, d_M_make_219, d_M_make_220, fl_M_20, d_M_make_223, d_M_make_224, d_M_make_226, d_M_make_227, za_0, za_i, za_r, za_n, za_l, zu_s, zu_u, Nat.reduceAdd, Nat.reduceLT, Nat.reduceBEq, Nat.zero_add, Bool.false_or, Bool.or_false, Bool.true_or, Bool.or_true, Bool.false_and, Bool.and_false, Bool.true_and, Bool.and_true, true_and, and_true, true_or, or_true, eq_self, Nat.le_refl, List.getElem?_cons_succ, List.getElem?_cons_zero, List.set_cons_succ, List.set_cons_zero, zk_0, zk_1, zk_2, zk_3, zk_4, zq_1, zq_2, Option.isSome_some, Option.getD_some, Option.toList_some, Option.toList_none, List.cons_append, List.nil_append, h0, h4, h5, h6, h7, h8, h9, h10, h11, h12, h14, h15, zu_n n_0_5, zu_n n_0_6, zu_n n_0_7, zu_n n_0_8, zu_n n_0_9, zu_n n_0_10, zu_n n_0_11, zu_n n_0_12, zu_n n_0_15, zu_n n_4_5, zu_n n_4_6, zu_n n_4_7, zu_n n_4_8, zu_n n_4_9, zu_n n_4_10, zu_n n_4_11, zu_n n_4_12, zu_n n_4_15, zu_n n_5_6, zu_n n_5_7, zu_n n_5_8, zu_n n_5_9, zu_n n_5_10, zu_n n_5_11, zu_n n_5_12, zu_n n_5_15, zu_n n_6_5, zu_n n_6_7, zu_n n_6_8, zu_n n_6_9, zu_n n_6_10, zu_n n_6_11, zu_n n_6_12, zu_n n_6_15, zu_n n_7_5, zu_n n_7_6, zu_n n_7_8, zu_n n_7_9, zu_n n_7_10, zu_n n_7_11, zu_n n_7_12, zu_n n_7_15, zu_n n_8_5, zu_n n_8_6, zu_n n_8_7, zu_n n_8_9, zu_n n_8_10, zu_n n_8_11, zu_n n_8_12, zu_n n_8_15, zu_n n_9_5, zu_n n_9_6, zu_n n_9_7, zu_n n_9_8, zu_n n_9_10, zu_n n_9_11, zu_n n_9_12, zu_n n_9_15, zu_n n_10_5, zu_n n_10_6, zu_n n_10_7, zu_n n_10_8, zu_n n_10_9, zu_n n_10_11, zu_n n_10_12, zu_n n_10_15, zu_n n_11_5, zu_n n_11_6, zu_n n_11_7, zu_n n_11_8, zu_n n_11_9, zu_n n_11_10, zu_n n_11_12, zu_n n_11_15, zu_n n_12_5, zu_n n_12_6, zu_n n_12_7, zu_n n_12_8, zu_n n_12_9, zu_n n_12_10, zu_n n_12_11, zu_n n_12_15, zu_n n_14_5, zu_n n_14_6, zu_n n_14_7, zu_n n_14_8, zu_n n_14_9, zu_n n_14_10, zu_n n_14_11, zu_n n_14_12, zu_n n_14_15, zu_n n_15_5, zu_n n_15_6, zu_n n_15_7, zu_n n_15_8, zu_n n_15_9, zu_n n_15_10, zu_n n_15_11, zu_n n_15_12, e1, e2, e3, e4, e5, true_implies, false_implies, not_true_eq_false, not_false_eq_true, zn_10, Int32.reduceLT, Int32.reduceLE, implies_true, and_self]
  obtain ⟨ok1, ok2, ok3⟩ := hok
  refine ⟨fun q => ?_, fun q => ?_, fun q => ⟨fun w => ?_, fun w => ?_⟩, fun q => ?_, fun q => ?_, fun q => ⟨fun w => ?_, fun w => ?_⟩⟩
  · have hk : R 2 = 5 := by clear hR C t213 hal; (simp only [Int32.lt_iff_toInt_lt, Int32.le_iff_toInt_le, ← Int32.toInt_inj, Int32.reduceToInt] at *; omega)
    obtain ⟨o4, o5⟩ := ok3 hk
    have hF : F 0 ≤ 2 := fal_h hal (Or.inr hk)
    have mk := mk_0 (st := 6) (who := -1) hw (Or.inr hk) hF (by rw [o4]; rfl) (fun u => absurd o5 u)
    refine zJ_callV (As := [.int (nI a), .int 6, .int (R 1), .int (-1), .long (R 5).toInt64]) (rest := []) C d_M_make_210 (c_M_hand l D dA z M rl B I L a 6 (R 1) (-1) (R 5).toInt64 hr ha5) k_M_137 n_M_hand v_M_hand h0 rfl rfl ⟨(Nat.le_of_ble_eq_true rfl), (Nat.le_of_ble_eq_true rfl)⟩ ⟨(Nat.le_of_ble_eq_true rfl), (Nat.le_of_ble_eq_true rfl)⟩ rfl (Nat.le_of_ble_eq_true rfl) ?_
    rintro v M9 ⟨rfl, g1⟩
    exact t213 M9 _ _ g1 (fun q8 => ⟨mk, ⟨⟨rfl, rfl, rfl, rfl, rfl, rfl, rfl, rfl, rfl, rfl, rfl, rfl, rfl, rfl, rfl, rfl⟩, ⟨rfl, rfl, rfl, rfl⟩, fun x hx => ⟨(by first | rfl | exact upd_n hx | exact updL_n hx), (by first | rfl | exact upd_n hx | exact updL_n hx), (by first | rfl | exact upd_n hx | exact updL_n hx), (by first | rfl | exact upd_n hx | exact updL_n hx), (by first | rfl | exact upd_n hx | exact updL_n hx), (by first | rfl | exact upd_n hx | exact updL_n hx), (by first | rfl | exact upd_n hx | exact updL_n hx), (by first | rfl | exact upd_n hx | exact updL_n hx), (by first | rfl | exact upd_n hx | exact updL_n hx)⟩, fun x hx => ⟨(by first | rfl | exact upd_n hx | exact updL_n hx), (by first | rfl | exact upd_n hx | exact updL_n hx), (by first | rfl | exact upd_n hx | exact updL_n hx)⟩, fun _ => ⟨rfl, rfl, rfl⟩, fun u => absurd u q8⟩⟩) (fun q8 => ⟨mk, ⟨⟨rfl, rfl, rfl, rfl, rfl, rfl, rfl, rfl, rfl, rfl, rfl, rfl, rfl, rfl, rfl, rfl⟩, ⟨rfl, rfl, rfl, rfl⟩, fun x hx => ⟨(by first | rfl | exact upd_n hx | exact updL_n hx), (by first | rfl | exact upd_n hx | exact updL_n hx), (by first | rfl | exact upd_n hx | exact updL_n hx), (by first | rfl | exact upd_n hx | exact updL_n hx), (by first | rfl | exact upd_n hx | exact updL_n hx), (by first | rfl | exact upd_n hx | exact updL_n hx), (by first | rfl | exact upd_n hx | exact updL_n hx), (by first | rfl | exact upd_n hx | exact updL_n hx), (by first | rfl | exact upd_n hx | exact updL_n hx)⟩, fun x hx => ⟨(by first | rfl | exact upd_n hx | exact updL_n hx), (by first | rfl | exact upd_n hx | exact updL_n hx), (by first | rfl | exact upd_n hx | exact updL_n hx)⟩, fun u => absurd q8 u, fun _ => ⟨upd_s _ _ _, fun u => absurd (u.symm.trans hk) (by decide), fun _ => ⟨rfl, rfl⟩⟩⟩⟩)
  · have hk := kk 0 q
    have hF : F 0 ≤ 2 := fal_h hal (Or.inl hk)
    have mk := mk_0 (st := 2 + R 4) (who := R 3) hw (Or.inl hk) hF (by rw [Int32.sub_eq_add_neg, Int32.add_assoc, Int32.add_comm (R 4), ← Int32.add_assoc]; rfl) (fun _ => rfl)
    refine zJ_callV (As := [.int (nI a), .int (2 + R 4), .int (R 1), .int (R 3), .long (R 5).toInt64]) (rest := []) C d_M_make_57 (c_M_hand l D dA z M rl B I L a (2 + R 4) (R 1) (R 3) (R 5).toInt64 hr ha5) k_M_137 n_M_hand v_M_hand h0 rfl rfl ⟨(Nat.le_of_ble_eq_true rfl), (Nat.le_of_ble_eq_true rfl)⟩ ⟨(Nat.le_of_ble_eq_true rfl), (Nat.le_of_ble_eq_true rfl)⟩ rfl (Nat.le_of_ble_eq_true rfl) ?_
    rintro v M9 ⟨rfl, g1⟩
    refine zgo (cut := fun q => q == 213) 60 C lk_M hR ?_
    simp only [zs_iconst, zs_bipush, zs_ldc2, zs_iload_n, zs_iload, zs_lload, zs_aload_n, zs_istore, zs_iadd, zs_imul, zs_ladd, zs_dup2, zs_icmp_ne, zs_goto, zs_tsw, zs_get, zs_iaload, zs_iastore, zs_lastore, zs_bastore, zs_return, zx_iv, zx_is, zx_it, zx_nw, zx_na, zx_an, zx_cc, zx_gs, zx_as, zx_ae, zx_ac, zx_at, zr_seg, zr_t, zr_f, zr_tp, zr_fp, zr_lg, zr_lr, zr_lr0, zr_wi, zr_wr, zr_wn, zr_wl, zr_vo, zr_so, zr_sI, zr_sL, zr_sA, zr_sN, zr_in, zr_rd, zr_wr2, zr_kf, zr_k0, zr_k1, zr_k2, zr_k3, zr_k3n, zr_k10, zr_k11, zr_k12, zr_k13, zr_k13n, zr_ai, zr_af, zr_aw, zr_aL, zr_Lf, zr_Lw, zr_l2, zr_l20, zr_al, zr_an, zr_aq, zr_ag, zr_rfs, zr_rfn, zr_r1, zr_r2, zr_w0, zr_w1, zr_tl, zr_40, zr_41, zr_42, zr_43, d_M_make_0, cb_61, d_M_make_2, d_M_make_3, d_M_make_4, d_M_make_5, d_M_make_6, d_M_make_8, d_M_make_9, sw_0, sw_1, sw_2, sw_3, sw_4, sw_5, sw_6, Int.reduceAdd, Int.zero_add, zt_9_191, zo_9_191, zt_9_35, zo_9_35, zt_9_54, zo_9_54, zt_9_115, zo_9_115, zt_9_127, zo_9_127, zt_9_138, zo_9_138, d_M_make_44, d_M_make_45, d_M_make_47, ci_2, d_M_make_48, d_M_make_50, d_M_make_51, d_M_make_53, d_M_make_55, d_M_make_57, d_M_make_60, zt_60_153, zo_60_153, d_M_make_63, d_M_make_64, fl_M_30, d_M_make_67, d_M_make_69, d_M_make_70, d_M_make_71, ci_1, d_M_make_72, d_M_make_73, d_M_make_74, d_M_make_75, fl_M_33, d_M_make_78, d_M_make_80, d_M_make_81, d_M_make_82, d_M_make_83, d_M_make_84, d_M_make_85, d_M_make_86, d_M_make_89, d_M_make_91, d_M_make_92, d_M_make_93, zt_93_19, zo_93_19, d_M_make_96, d_M_make_97, fl_M_39, d_M_make_100, d_M_make_102, d_M_make_104, ll_M_141, d_M_make_107, d_M_make_108, d_M_make_109, zt_109_104, zo_109_104, d_M_make_112, d_M_make_113, fl_M_36, d_M_make_116, d_M_make_118, d_M_make_120, d_M_make_121, zt_121_92, zo_121_92, d_M_make_124, d_M_make_125, d_M_make_128, d_M_make_130, cb_7, d_M_make_132, d_M_make_133, zt_133_80, zo_133_80, d_M_make_136, d_M_make_137, fl_M_54, d_M_make_140, d_M_make_142, d_M_make_143, d_M_make_144, zt_144_69, zo_144_69, d_M_make_147, d_M_make_148, d_M_make_151, d_M_make_153, d_M_make_154, fl_M_51, d_M_make_157, d_M_make_159, d_M_make_160, d_M_make_161, d_M_make_162, fl_M_42, d_M_make_165, d_M_make_167, ci_m1, d_M_make_168, d_M_make_169, d_M_make_170, fl_M_45, d_M_make_173, d_M_make_175, d_M_make_176, d_M_make_177, d_M_make_178, cb_8, d_M_make_180, zt_180_33, zo_180_33, d_M_make_183, d_M_make_184, fl_M_23, d_M_make_187, d_M_make_188, ci_0, d_M_make_189, d_M_make_190, d_M_make_191, fl_M_27, d_M_make_194, d_M_make_195, d_M_make_196, d_M_make_197, zt_197_16, zo_197_16, d_M_make_200, d_M_make_201, d_M_make_203, cb_6, d_M_make_205, d_M_make_207, d_M_make_208, d_M_make_210, d_M_make_213, d_M_make_214, d_M_make_216, zt_216_11, zo_216_11, d_M_make_219, d_M_make_220, fl_M_20, d_M_make_223, d_M_make_224, d_M_make_226, d_M_make_227, za_0, za_i, za_r, za_n, za_l, zu_s, zu_u, Nat.reduceAdd, Nat.reduceLT, Nat.reduceBEq, Nat.zero_add, Bool.false_or, Bool.or_false, Bool.true_or, Bool.or_true, Bool.false_and, Bool.and_false, Bool.true_and, Bool.and_true, true_and, and_true, true_or, or_true, eq_self, Nat.le_refl, List.getElem?_cons_succ, List.getElem?_cons_zero, List.set_cons_succ, List.set_cons_zero, zk_0, zk_1, zk_2, zk_3, zk_4, zq_1, zq_2, Option.isSome_some, Option.getD_some, Option.toList_some, Option.toList_none, List.cons_append, List.nil_append, true_implies, false_implies, not_true_eq_false, not_false_eq_true, zn_10, Int32.reduceLT, Int32.reduceLE, implies_true, and_self]
    exact t213 M9 _ _ g1 (fun q8 => ⟨mk, ⟨⟨rfl, rfl, rfl, rfl, rfl, rfl, rfl, rfl, rfl, rfl, rfl, rfl, rfl, rfl, rfl, rfl⟩, ⟨rfl, rfl, rfl, rfl⟩, fun x hx => ⟨(by first | rfl | exact upd_n hx | exact updL_n hx), (by first | rfl | exact upd_n hx | exact updL_n hx), (by first | rfl | exact upd_n hx | exact updL_n hx), (by first | rfl | exact upd_n hx | exact updL_n hx), (by first | rfl | exact upd_n hx | exact updL_n hx), (by first | rfl | exact upd_n hx | exact updL_n hx), (by first | rfl | exact upd_n hx | exact updL_n hx), (by first | rfl | exact upd_n hx | exact updL_n hx), (by first | rfl | exact upd_n hx | exact updL_n hx)⟩, fun x hx => ⟨(by first | rfl | exact upd_n hx | exact updL_n hx), (by first | rfl | exact upd_n hx | exact updL_n hx), (by first | rfl | exact upd_n hx | exact updL_n hx)⟩, fun _ => ⟨rfl, rfl, rfl⟩, fun u => absurd u q8⟩⟩) (fun q8 => ⟨mk, ⟨⟨rfl, rfl, rfl, rfl, rfl, rfl, rfl, rfl, rfl, rfl, rfl, rfl, rfl, rfl, rfl, rfl⟩, ⟨rfl, rfl, rfl, rfl⟩, fun x hx => ⟨(by first | rfl | exact upd_n hx | exact updL_n hx), (by first | rfl | exact upd_n hx | exact updL_n hx), (by first | rfl | exact upd_n hx | exact updL_n hx), (by first | rfl | exact upd_n hx | exact updL_n hx), (by first | rfl | exact upd_n hx | exact updL_n hx), (by first | rfl | exact upd_n hx | exact updL_n hx), (by first | rfl | exact upd_n hx | exact updL_n hx), (by first | rfl | exact upd_n hx | exact updL_n hx), (by first | rfl | exact upd_n hx | exact updL_n hx)⟩, fun x hx => ⟨(by first | rfl | exact upd_n hx | exact updL_n hx), (by first | rfl | exact upd_n hx | exact updL_n hx), (by first | rfl | exact upd_n hx | exact updL_n hx)⟩, fun u => absurd q8 u, fun _ => ⟨upd_s _ _ _, fun u => absurd (u.symm.trans hk) (by decide), fun _ => ⟨rfl, rfl⟩⟩⟩⟩)
  · have hk := kk 1 q
    rw [upd_s, hw.1] at w
    have hF : F 0 = 0 := by
      clear hR C t213
      rcases hal with u | u | u | u | u | u
      · exact absurd (u.1.symm.trans hk) (by decide)
      · exact absurd (u.1.symm.trans hk) (by decide)
      · rcases u.2 with u | u
        · exact u
        · rw [u.1] at w; exact absurd (by decide) w
      · exact absurd (u.1.symm.trans hk) (by decide)
      · exact absurd (u.1.symm.trans hk) (by decide)
      · rw [hk] at u; exact absurd u.1 (by decide)
    have mk := mk_1a hw hk hF
    exact t213 _ _ _ (rg_l 9 (rg_i 8 (rg_i 7 (rg_0 hr) rfl) rfl) rfl) (fun q8 => ⟨mk, ⟨⟨rfl, rfl, rfl, rfl, rfl, rfl, rfl, rfl, rfl, rfl, rfl, rfl, rfl, rfl, rfl, rfl⟩, ⟨rfl, rfl, rfl, rfl⟩, fun x hx => ⟨(by first | rfl | exact upd_n hx | exact updL_n hx), (by first | rfl | exact upd_n hx | exact updL_n hx), (by first | rfl | exact upd_n hx | exact updL_n hx), (by first | rfl | exact upd_n hx | exact updL_n hx), (by first | rfl | exact upd_n hx | exact updL_n hx), (by first | rfl | exact upd_n hx | exact updL_n hx), (by first | rfl | exact upd_n hx | exact updL_n hx), (by first | rfl | exact upd_n hx | exact updL_n hx), (by first | rfl | exact upd_n hx | exact updL_n hx)⟩, fun x hx => ⟨(by first | rfl | exact upd_n hx | exact updL_n hx), (by first | rfl | exact upd_n hx | exact updL_n hx), (by first | rfl | exact upd_n hx | exact updL_n hx)⟩, fun _ => ⟨rfl, rfl, rfl⟩, fun u => absurd u q8⟩⟩) (fun q8 => ⟨mk, ⟨⟨rfl, rfl, rfl, rfl, rfl, rfl, rfl, rfl, rfl, rfl, rfl, rfl, rfl, rfl, rfl, rfl⟩, ⟨rfl, rfl, rfl, rfl⟩, fun x hx => ⟨(by first | rfl | exact upd_n hx | exact updL_n hx), (by first | rfl | exact upd_n hx | exact updL_n hx), (by first | rfl | exact upd_n hx | exact updL_n hx), (by first | rfl | exact upd_n hx | exact updL_n hx), (by first | rfl | exact upd_n hx | exact updL_n hx), (by first | rfl | exact upd_n hx | exact updL_n hx), (by first | rfl | exact upd_n hx | exact updL_n hx), (by first | rfl | exact upd_n hx | exact updL_n hx), (by first | rfl | exact upd_n hx | exact updL_n hx)⟩, fun x hx => ⟨(by first | rfl | exact upd_n hx | exact updL_n hx), (by first | rfl | exact upd_n hx | exact updL_n hx), (by first | rfl | exact upd_n hx | exact updL_n hx)⟩, fun u => absurd q8 u, fun _ => ⟨upd_s _ _ _, fun u => absurd (u.symm.trans hk) (by decide), fun _ => ⟨rfl, rfl⟩⟩⟩⟩)
  · have hk := kk 1 q
    rw [upd_s, hw.1] at w
    have hF : F 0 = 1 := by
      clear hR C t213
      rcases hal with u | u | u | u | u | u
      · exact absurd (u.1.symm.trans hk) (by decide)
      · exact absurd (u.1.symm.trans hk) (by decide)
      · rcases u.2 with u | u
        · rw [u] at w; exact absurd w (by decide)
        · exact u.1
      · exact absurd (u.1.symm.trans hk) (by decide)
      · exact absurd (u.1.symm.trans hk) (by decide)
      · rw [hk] at u; exact absurd u.1 (by decide)
    have mk := mk_1b hw hk hF hd
    exact t213 _ _ _ (rg_l 10 (rg_i 8 (rg_i 7 (rg_0 hr) rfl) rfl) rfl) (fun q8 => ⟨mk, ⟨⟨rfl, rfl, rfl, rfl, rfl, rfl, rfl, rfl, rfl, rfl, rfl, rfl, rfl, rfl, rfl, rfl⟩, ⟨rfl, rfl, rfl, rfl⟩, fun x hx => ⟨(by first | rfl | exact upd_n hx | exact updL_n hx), (by first | rfl | exact upd_n hx | exact updL_n hx), (by first | rfl | exact upd_n hx | exact updL_n hx), (by first | rfl | exact upd_n hx | exact updL_n hx), (by first | rfl | exact upd_n hx | exact updL_n hx), (by first | rfl | exact upd_n hx | exact updL_n hx), (by first | rfl | exact upd_n hx | exact updL_n hx), (by first | rfl | exact upd_n hx | exact updL_n hx), (by first | rfl | exact upd_n hx | exact updL_n hx)⟩, fun x hx => ⟨(by first | rfl | exact upd_n hx | exact updL_n hx), (by first | rfl | exact upd_n hx | exact updL_n hx), (by first | rfl | exact upd_n hx | exact updL_n hx)⟩, fun _ => ⟨rfl, rfl, rfl⟩, fun u => absurd u q8⟩⟩) (fun q8 => ⟨mk, ⟨⟨rfl, rfl, rfl, rfl, rfl, rfl, rfl, rfl, rfl, rfl, rfl, rfl, rfl, rfl, rfl, rfl⟩, ⟨rfl, rfl, rfl, rfl⟩, fun x hx => ⟨(by first | rfl | exact upd_n hx | exact updL_n hx), (by first | rfl | exact upd_n hx | exact updL_n hx), (by first | rfl | exact upd_n hx | exact updL_n hx), (by first | rfl | exact upd_n hx | exact updL_n hx), (by first | rfl | exact upd_n hx | exact updL_n hx), (by first | rfl | exact upd_n hx | exact updL_n hx), (by first | rfl | exact upd_n hx | exact updL_n hx), (by first | rfl | exact upd_n hx | exact updL_n hx), (by first | rfl | exact upd_n hx | exact updL_n hx)⟩, fun x hx => ⟨(by first | rfl | exact upd_n hx | exact updL_n hx), (by first | rfl | exact upd_n hx | exact updL_n hx), (by first | rfl | exact upd_n hx | exact updL_n hx)⟩, fun u => absurd q8 u, fun _ => ⟨upd_s _ _ _, fun u => absurd (u.symm.trans hk) (by decide), fun _ => ⟨rfl, rfl⟩⟩⟩⟩)
  · have hk := kk 2 q
    have mk := mk_2 hw hk
    exact t213 _ _ _ (rg_i 7 (rg_0 hr) rfl) (fun q8 => ⟨mk, ⟨⟨rfl, rfl, rfl, rfl, rfl, rfl, rfl, rfl, rfl, rfl, rfl, rfl, rfl, rfl, rfl, rfl⟩, ⟨rfl, rfl, rfl, rfl⟩, fun x hx => ⟨(by first | rfl | exact upd_n hx | exact updL_n hx), (by first | rfl | exact upd_n hx | exact updL_n hx), (by first | rfl | exact upd_n hx | exact updL_n hx), (by first | rfl | exact upd_n hx | exact updL_n hx), (by first | rfl | exact upd_n hx | exact updL_n hx), (by first | rfl | exact upd_n hx | exact updL_n hx), (by first | rfl | exact upd_n hx | exact updL_n hx), (by first | rfl | exact upd_n hx | exact updL_n hx), (by first | rfl | exact upd_n hx | exact updL_n hx)⟩, fun x hx => ⟨(by first | rfl | exact upd_n hx | exact updL_n hx), (by first | rfl | exact upd_n hx | exact updL_n hx), (by first | rfl | exact upd_n hx | exact updL_n hx)⟩, fun _ => ⟨rfl, rfl, rfl⟩, fun u => absurd u q8⟩⟩) (fun q8 => ⟨mk, ⟨⟨rfl, rfl, rfl, rfl, rfl, rfl, rfl, rfl, rfl, rfl, rfl, rfl, rfl, rfl, rfl, rfl⟩, ⟨rfl, rfl, rfl, rfl⟩, fun x hx => ⟨(by first | rfl | exact upd_n hx | exact updL_n hx), (by first | rfl | exact upd_n hx | exact updL_n hx), (by first | rfl | exact upd_n hx | exact updL_n hx), (by first | rfl | exact upd_n hx | exact updL_n hx), (by first | rfl | exact upd_n hx | exact updL_n hx), (by first | rfl | exact upd_n hx | exact updL_n hx), (by first | rfl | exact upd_n hx | exact updL_n hx), (by first | rfl | exact upd_n hx | exact updL_n hx), (by first | rfl | exact upd_n hx | exact updL_n hx)⟩, fun x hx => ⟨(by first | rfl | exact upd_n hx | exact updL_n hx), (by first | rfl | exact upd_n hx | exact updL_n hx), (by first | rfl | exact upd_n hx | exact updL_n hx)⟩, fun u => absurd q8 u, fun _ => ⟨upd_s _ _ _, fun u => absurd (u.symm.trans hk) (by decide), fun _ => ⟨rfl, rfl⟩⟩⟩⟩)
  · have hk := kk 3 q
    have mk := mk_3 hw hk
    exact t213 _ _ _ (rg_z 15 (rg_0 hr) rfl (upd_b (rfb_15 hr) (Or.inr rfl))) (fun q8 => ⟨mk, ⟨⟨rfl, rfl, rfl, rfl, rfl, rfl, rfl, rfl, rfl, rfl, rfl, rfl, rfl, rfl, rfl, rfl⟩, ⟨rfl, rfl, rfl, rfl⟩, fun x hx => ⟨(by first | rfl | exact upd_n hx | exact updL_n hx), (by first | rfl | exact upd_n hx | exact updL_n hx), (by first | rfl | exact upd_n hx | exact updL_n hx), (by first | rfl | exact upd_n hx | exact updL_n hx), (by first | rfl | exact upd_n hx | exact updL_n hx), (by first | rfl | exact upd_n hx | exact updL_n hx), (by first | rfl | exact upd_n hx | exact updL_n hx), (by first | rfl | exact upd_n hx | exact updL_n hx), (by first | rfl | exact upd_n hx | exact updL_n hx)⟩, fun x hx => ⟨(by first | rfl | exact upd_n hx | exact updL_n hx), (by first | rfl | exact upd_n hx | exact updL_n hx), (by first | rfl | exact upd_n hx | exact updL_n hx)⟩, fun _ => ⟨rfl, rfl, rfl⟩, fun u => absurd u q8⟩⟩) (fun q8 => ⟨mk, ⟨⟨rfl, rfl, rfl, rfl, rfl, rfl, rfl, rfl, rfl, rfl, rfl, rfl, rfl, rfl, rfl, rfl⟩, ⟨rfl, rfl, rfl, rfl⟩, fun x hx => ⟨(by first | rfl | exact upd_n hx | exact updL_n hx), (by first | rfl | exact upd_n hx | exact updL_n hx), (by first | rfl | exact upd_n hx | exact updL_n hx), (by first | rfl | exact upd_n hx | exact updL_n hx), (by first | rfl | exact upd_n hx | exact updL_n hx), (by first | rfl | exact upd_n hx | exact updL_n hx), (by first | rfl | exact upd_n hx | exact updL_n hx), (by first | rfl | exact upd_n hx | exact updL_n hx), (by first | rfl | exact upd_n hx | exact updL_n hx)⟩, fun x hx => ⟨(by first | rfl | exact upd_n hx | exact updL_n hx), (by first | rfl | exact upd_n hx | exact updL_n hx), (by first | rfl | exact upd_n hx | exact updL_n hx)⟩, fun u => absurd q8 u, fun _ => ⟨upd_s _ _ _, fun u => absurd (u.symm.trans hk) (by decide), fun _ => ⟨rfl, rfl⟩⟩⟩⟩)
  · have hk := kk 4 q
    have mk := mk_4 hw hk
    exact t213 _ _ _ (rg_i 12 (rg_i 11 (rg_i 7 (rg_0 hr) rfl) rfl) rfl) (fun q8 => ⟨mk, ⟨⟨rfl, rfl, rfl, rfl, rfl, rfl, rfl, rfl, rfl, rfl, rfl, rfl, rfl, rfl, rfl, rfl⟩, ⟨rfl, rfl, rfl, rfl⟩, fun x hx => ⟨(by first | rfl | exact upd_n hx | exact updL_n hx), (by first | rfl | exact upd_n hx | exact updL_n hx), (by first | rfl | exact upd_n hx | exact updL_n hx), (by first | rfl | exact upd_n hx | exact updL_n hx), (by first | rfl | exact upd_n hx | exact updL_n hx), (by first | rfl | exact upd_n hx | exact updL_n hx), (by first | rfl | exact upd_n hx | exact updL_n hx), (by first | rfl | exact upd_n hx | exact updL_n hx), (by first | rfl | exact upd_n hx | exact updL_n hx)⟩, fun x hx => ⟨(by first | rfl | exact upd_n hx | exact updL_n hx), (by first | rfl | exact upd_n hx | exact updL_n hx), (by first | rfl | exact upd_n hx | exact updL_n hx)⟩, fun _ => ⟨rfl, rfl, rfl⟩, fun u => absurd u q8⟩⟩) (fun q8 => absurd (e8.mpr q8) w)
  · have hk := kk 4 q
    have mk := mk_4 hw hk
    exact t213 _ _ _ (rg_z 6 (rg_z 5 (rg_i 12 (rg_i 11 (rg_i 7 (rg_0 hr) rfl) rfl) rfl) rfl (upd_b (rfb_5 hr) (Or.inl rfl))) rfl (upd_b (rfb_6 hr) (Or.inl rfl))) (fun q8 => absurd (e8.mp w) q8) (fun q8 => ⟨mk, ⟨⟨rfl, rfl, rfl, rfl, rfl, rfl, rfl, rfl, rfl, rfl, rfl, rfl, rfl, rfl, rfl, rfl⟩, ⟨rfl, rfl, rfl, rfl⟩, fun x hx => ⟨(by first | rfl | exact upd_n hx | exact updL_n hx), (by first | rfl | exact upd_n hx | exact updL_n hx), (by first | rfl | exact upd_n hx | exact updL_n hx), (by first | rfl | exact upd_n hx | exact updL_n hx), (by first | rfl | exact upd_n hx | exact updL_n hx), (by first | rfl | exact upd_n hx | exact updL_n hx), (by first | rfl | exact upd_n hx | exact updL_n hx), (by first | rfl | exact upd_n hx | exact updL_n hx), (by first | rfl | exact upd_n hx | exact updL_n hx)⟩, fun x hx => ⟨(by first | rfl | exact upd_n hx | exact updL_n hx), (by first | rfl | exact upd_n hx | exact updL_n hx), (by first | rfl | exact upd_n hx | exact updL_n hx)⟩, fun u => absurd q8 u, fun _ => ⟨upd_s _ _ _, fun _ => ⟨upd_s _ _ _, upd_s _ _ _⟩, fun u => absurd hk u⟩⟩⟩)
