/-! The reference: who may have an item. -/
theorem nI_r {p : Int32} (h : 0 ≤ p ∧ p < 100) : ∃ a, a < 100 ∧ p = nI a := by
  obtain ⟨a, a1, rfl⟩ := nI_of (x := p) (by (simp only [Int32.lt_iff_toInt_lt, Int32.le_iff_toInt_le, ← Int32.toInt_inj, Int32.reduceToInt] at *; omega))
  exact ⟨a, (nI_ltI (b := 100) (by omega) (by omega)).mp h.2, rfl⟩
theorem zco_n {x p k o : Int32} (h : zCo x p k o) : ∃ a b c0, a < 100 ∧ b ≤ 2 ∧ p = nI a ∧ k = nI b ∧ x = nI ((b * 100 + a) * 101 + c0) ∧ ((b = 2 ∧ c0 = 0) ∨ (b < 2 ∧ 1 ≤ c0 ∧ c0 ≤ 100 ∧ o = nI (c0 - 1))) := by
  obtain ⟨hp, h⟩ := h
  obtain ⟨a, a1, rfl⟩ := nI_r hp
  have key : ∀ (b c0 : Nat), zcode (nI a) (nI b) (nI c0) = nI ((b * 100 + a) * 101 + (c0 + 1)) := fun b c0 => by
    unfold zcode
    show (nI b * nI 100 + nI a) * nI 101 + nI c0 + nI 1 = _
    rw [nI_mul, nI_add, nI_mul, nI_add, nI_add]; rfl
  rcases h with ⟨rfl, rfl⟩ | ⟨hk, ho, rfl⟩
  · refine ⟨a, 2, 0, a1, by omega, rfl, rfl, ?_, Or.inl ⟨rfl, rfl⟩⟩
    unfold zcode
    show (nI 2 * nI 100 + nI a) * nI 101 + (-1) + 1 = _
    rw [nI_mul, nI_add, nI_mul, Int32.add_assoc, show (-1 : Int32) + 1 = 0 from by decide, Int32.add_zero, Nat.add_zero]
  · obtain ⟨c0, c1, rfl⟩ := nI_r ho
    rcases hk with rfl | rfl
    · exact ⟨a, 0, c0 + 1, a1, by omega, rfl, rfl, key 0 c0, Or.inr ⟨by omega, by omega, by omega, rfl⟩⟩
    · exact ⟨a, 1, c0 + 1, a1, by omega, rfl, rfl, key 1 c0, Or.inr ⟨by omega, by omega, by omega, rfl⟩⟩
theorem zco_iff {x p k o x' p' k' o' : Int32} (h : zCo x p k o) (h' : zCo x' p' k' o') : (p' = p ∧ k' = k ∧ (k = 2 ∨ o' = o)) ↔ x' = x := by
  obtain ⟨a, b, c0, h1, h2, rfl, rfl, rfl, h3⟩ := zco_n h
  obtain ⟨a', b', c0', h1', h2', rfl, rfl, rfl, h3'⟩ := zco_n h'
  rw [nI_eq (by omega) (by omega), nI_eq (by omega) (by omega), nI_eq (by omega) (by omega), show ((nI b = 2) ↔ b = 2) from nI_eq (b := 2) (by omega) (by omega)]
  rcases h3 with ⟨rfl, rfl⟩ | ⟨g1, g2, g3, rfl⟩
  · rcases h3' with ⟨rfl, rfl⟩ | ⟨g1', g2', g3', rfl⟩
    · constructor
      · rintro ⟨rfl, _, _⟩; rfl
      · intro q; exact ⟨by omega, by omega, Or.inl rfl⟩
    · constructor
      · rintro ⟨rfl, _, _⟩; omega
      · intro q; omega
  · rcases h3' with ⟨rfl, rfl⟩ | ⟨g1', g2', g3', rfl⟩
    · constructor
      · rintro ⟨rfl, _, _⟩; omega
      · intro q; omega
    · rw [nI_eq (by omega) (by omega)]
      constructor
      · rintro ⟨rfl, rfl, q⟩; omega
      · intro q; exact ⟨by omega, by omega, Or.inr (by omega)⟩
set_option maxHeartbeats 4000000 in
set_option maxRecDepth 100000 in
theorem c_M_findConsent (l : Launch) (D : va_G) (dA : Nat → ClassId) (z : Nat) (M : zVw) (rl : Nat → Nat) (B : Nat → Nat) (I : Nat → Nat → Int32) (L : Nat → Nat → Int64) (S : Nat → Nat → Nat → Int32) (N : Nat → Nat → Nat) (T : Nat → Int64) (x p0 k0 o0 : Int32) (hr : zRf M rl dA B I L) (hq : zRel S N T I L) (hb : zBd N) (hx : zCo x p0 k0 o0) : zMet l y_M_findConsent b_M_findConsent 7 (some .int) 0 0 0 0 D dA z [.ref (B 0), .int p0, .int k0, .int o0] M (fun v M' => M' = M ∧ ((∃ j, j < N 2 0 ∧ S 3 0 j = x ∧ v = some (.int (nI j))) ∨ (¬ zIn (S 3 0) (N 2 0) x ∧ v = some (.int (-1))))) := by
  have h0 := rf_0 hr
  have h17 := rf_17 hr
  have h18 := rf_18 hr
  have h19 := rf_19 hr
  have hnc := hq.nc
  have b2 := hb.b2
  refine z_of 1 false (by decide) (fun h => by first | rfl | cases h) (Nat.le_of_ble_eq_true rfl) trivial ?_
  intro p e s m args below meth c C hR
  have loop : ∀ (k i : Nat) (w : Int32), N 2 0 - i ≤ k → i ≤ N 2 0 → ((∃ j, j < i ∧ S 3 0 j = x ∧ w = nI j) ∨ ((∀ j, j < i → S 3 0 j ≠ x) ∧ w = -1)) → zJ p l e (zR 0 0 0 0) s m args below meth c (MQ below (zQ D dA z (fun v M' => M' = M ∧ ((∃ j, j < N 2 0 ∧ S 3 0 j = x ∧ v = some (.int (nI j))) ∨ (¬ zIn (S 3 0) (N 2 0) x ∧ v = some (.int (-1)))))) args s 0 0 (fun q => z ≤ q)) 7 z D 6 [(5, .int (nI i)), (4, .int w), (0, .ref (B 0)), (1, .int p0), (2, .int k0), (3, .int o0)] [] M 0 0 := by
    have fin : ∀ (w : Int32), ((∃ j, j < N 2 0 ∧ S 3 0 j = x ∧ w = nI j) ∨ ((∀ j, j < N 2 0 → S 3 0 j ≠ x) ∧ w = -1)) → ((∃ j, j < N 2 0 ∧ S 3 0 j = x ∧ some (Value.int w) = some (.int (nI j))) ∨ (¬ zIn (S 3 0) (N 2 0) x ∧ some (Value.int w) = some (.int (-1)))) := by
      rintro w (⟨j, j1, j2, rfl⟩ | ⟨j1, rfl⟩)
      · exact Or.inl ⟨j, j1, j2, rfl⟩
      · exact Or.inr ⟨fun ⟨j, q1, q2⟩ => j1 j q1 q2, rfl⟩
    intro k
    induction k with
    | zero =>
      intro i w h1 h2 h3
      have hi : i = N 2 0 := by omega
      subst hi
      refine zgo (cut := fun q => q == 6) 60 C lk_M hR ?_
      simp only [zs_iconst, zs_iload_n, zs_iload, zs_aload_n, zs_istore, zs_if_eq, zs_icmp_eq, zs_icmp_ne, zs_icmp_ge, zs_goto, zs_iinc, zs_get, zs_iaload, zs_ireturn, zx_iv, zx_is, zx_it, zx_nw, zx_na, zx_an, zx_cc, zx_gs, zx_as, zx_ae, zx_ac, zx_at, zr_seg, zr_t, zr_f, zr_tp, zr_fp, zr_lg, zr_lr, zr_lr0, zr_wi, zr_wr, zr_wn, zr_wl, zr_vo, zr_so, zr_sI, zr_sL, zr_sA, zr_sN, zr_in, zr_rd, zr_wr2, zr_kf, zr_k0, zr_k1, zr_k2, zr_k3, zr_k3n, zr_k10, zr_k11, zr_k12, zr_k13, zr_k13n, zr_ai, zr_af, zr_aw, zr_aL, zr_Lf, zr_Lw, zr_l2, zr_l20, zr_al, zr_an, zr_aq, zr_ag, zr_rfs, zr_rfn, zr_r1, zr_r2, zr_w0, zr_w1, zr_tl, zr_40, zr_41, zr_42, zr_43, d_M_findConsent_0, ci_m1, d_M_findConsent_1, d_M_findConsent_3, ci_0, d_M_findConsent_4, d_M_findConsent_6, d_M_findConsent_8, d_M_findConsent_9, fl_M_114, d_M_findConsent_12, zt_12_68, zo_12_68, d_M_findConsent_15, d_M_findConsent_16, fl_M_57, d_M_findConsent_19, d_M_findConsent_21, d_M_findConsent_22, d_M_findConsent_23, zt_23_34, zo_23_34, d_M_findConsent_26, d_M_findConsent_27, fl_M_60, d_M_findConsent_30, d_M_findConsent_32, d_M_findConsent_33, d_M_findConsent_34, zt_34_23, zo_34_23, d_M_findConsent_37, d_M_findConsent_38, ci_2, d_M_findConsent_39, zt_39_14, zo_39_14, d_M_findConsent_42, d_M_findConsent_43, fl_M_63, d_M_findConsent_46, d_M_findConsent_48, d_M_findConsent_49, d_M_findConsent_50, zt_50_7, zo_50_7, d_M_findConsent_53, ci_1, d_M_findConsent_54, zt_54_4, zo_54_4, d_M_findConsent_57, d_M_findConsent_58, d_M_findConsent_60, d_M_findConsent_62, zt_62_8, zo_62_8, d_M_findConsent_65, d_M_findConsent_67, zt_67_5, zo_67_5, d_M_findConsent_70, d_M_findConsent_72, d_M_findConsent_74, d_M_findConsent_77, zt_77_m71, zo_77_m71, d_M_findConsent_80, d_M_findConsent_82, za_0, za_i, za_r, za_n, za_l, zu_s, zu_u, Nat.reduceAdd, Nat.reduceLT, Nat.reduceBEq, Nat.zero_add, Bool.false_or, Bool.or_false, Bool.true_or, Bool.or_true, Bool.false_and, Bool.and_false, Bool.true_and, Bool.and_true, true_and, and_true, true_or, or_true, eq_self, Nat.le_refl, List.getElem?_cons_succ, List.getElem?_cons_zero, List.set_cons_succ, List.set_cons_zero, zk_0, zk_1, zk_2, zk_3, zk_4, zq_1, zq_2, Option.isSome_some, Option.getD_some, Option.toList_some, Option.toList_none, List.cons_append, List.nil_append, h0, hnc, true_implies, false_implies, not_true_eq_false, not_false_eq_true, zn_10, Int32.reduceLT, Int32.reduceLE, implies_true, and_self]
      exact ⟨fun _ => fin w h3, fun y => absurd (nI_le (Nat.le_refl _) (by omega)) y⟩
    | succ k ih =>
      intro i w h1 h2 h3
      have e2 : (nI i).toNatClampNeg = i := nI_clamp (by omega)
      refine zgo (cut := fun q => q == 6) 60 C lk_M hR ?_
      simp only [zs_iconst, zs_iload_n, zs_iload, zs_aload_n, zs_istore, zs_if_eq, zs_icmp_eq, zs_icmp_ne, zs_icmp_ge, zs_goto, zs_iinc, zs_get, zs_iaload, zs_ireturn, zx_iv, zx_is, zx_it, zx_nw, zx_na, zx_an, zx_cc, zx_gs, zx_as, zx_ae, zx_ac, zx_at, zr_seg, zr_t, zr_f, zr_tp, zr_fp, zr_lg, zr_lr, zr_lr0, zr_wi, zr_wr, zr_wn, zr_wl, zr_vo, zr_so, zr_sI, zr_sL, zr_sA, zr_sN, zr_in, zr_rd, zr_wr2, zr_kf, zr_k0, zr_k1, zr_k2, zr_k3, zr_k3n, zr_k10, zr_k11, zr_k12, zr_k13, zr_k13n, zr_ai, zr_af, zr_aw, zr_aL, zr_Lf, zr_Lw, zr_l2, zr_l20, zr_al, zr_an, zr_aq, zr_ag, zr_rfs, zr_rfn, zr_r1, zr_r2, zr_w0, zr_w1, zr_tl, zr_40, zr_41, zr_42, zr_43, d_M_findConsent_0, ci_m1, d_M_findConsent_1, d_M_findConsent_3, ci_0, d_M_findConsent_4, d_M_findConsent_6, d_M_findConsent_8, d_M_findConsent_9, fl_M_114, d_M_findConsent_12, zt_12_68, zo_12_68, d_M_findConsent_15, d_M_findConsent_16, fl_M_57, d_M_findConsent_19, d_M_findConsent_21, d_M_findConsent_22, d_M_findConsent_23, zt_23_34, zo_23_34, d_M_findConsent_26, d_M_findConsent_27, fl_M_60, d_M_findConsent_30, d_M_findConsent_32, d_M_findConsent_33, d_M_findConsent_34, zt_34_23, zo_34_23, d_M_findConsent_37, d_M_findConsent_38, ci_2, d_M_findConsent_39, zt_39_14, zo_39_14, d_M_findConsent_42, d_M_findConsent_43, fl_M_63, d_M_findConsent_46, d_M_findConsent_48, d_M_findConsent_49, d_M_findConsent_50, zt_50_7, zo_50_7, d_M_findConsent_53, ci_1, d_M_findConsent_54, zt_54_4, zo_54_4, d_M_findConsent_57, d_M_findConsent_58, d_M_findConsent_60, d_M_findConsent_62, zt_62_8, zo_62_8, d_M_findConsent_65, d_M_findConsent_67, zt_67_5, zo_67_5, d_M_findConsent_70, d_M_findConsent_72, d_M_findConsent_74, d_M_findConsent_77, zt_77_m71, zo_77_m71, d_M_findConsent_80, d_M_findConsent_82, za_0, za_i, za_r, za_n, za_l, zu_s, zu_u, Nat.reduceAdd, Nat.reduceLT, Nat.reduceBEq, Nat.zero_add, Bool.false_or, Bool.or_false, Bool.true_or, Bool.or_true, Bool.false_and, Bool.and_false, Bool.true_and, Bool.and_true, true_and, and_true, true_or, or_true, eq_self, Nat.le_refl, List.getElem?_cons_succ, List.getElem?_cons_zero, List.set_cons_succ, List.set_cons_zero, zk_0, zk_1, zk_2, zk_3, zk_4, zq_1, zq_2, Option.isSome_some, Option.getD_some, Option.toList_some, Option.toList_none, List.cons_append, List.nil_append, h0, hnc, h17, h18, h19, e2, nI_1, true_implies, false_implies, not_true_eq_false, not_false_eq_true, zn_10, Int32.reduceLT, Int32.reduceLE, implies_true, and_self]
      have sub : ∀ (a b c1 d1 e1 f1 g1 : Nat × Value), ∀ q ∈ [a, b, d1, e1, f1, g1], q ∈ [a, b, c1, d1, e1, f1, g1] := fun a b c1 d1 e1 f1 g1 q hq => by
        simp only [List.mem_cons, List.not_mem_nil, or_false] at hq ⊢
        rcases hq with h | h | h | h | h | h <;> simp [h]
      refine ⟨fun y => ?_, fun y => ?_⟩
      · have hi : i = N 2 0 := by
          rcases Nat.lt_or_ge i (N 2 0) with u | u
          · exact absurd y (nI_ge u (by omega))
          · omega
        subst hi
        exact fin w h3
      · have hlt : i < N 2 0 := by
          rcases Nat.lt_or_ge i (N 2 0) with u | u
          · exact u
          · exact absurd (nI_le u (by omega)) y
        have iff := zco_iff hx (hq.co i hlt)
        have ein : vp_in (nI i) 100 := vp_in_nI (by omega) (by omega)
        have yes : S 3 0 i = x → ∃ j, j < i + 1 ∧ S 3 0 j = x ∧ nI i = nI j := fun u => ⟨i, by omega, u, rfl⟩
        have no : S 3 0 i ≠ x → ((∃ j, j < i + 1 ∧ S 3 0 j = x ∧ w = nI j) ∨ ((∀ j, j < i + 1 → S 3 0 j ≠ x) ∧ w = -1)) := fun u => by
          rcases h3 with ⟨j, j1, j2⟩ | ⟨j1, j2⟩
          · exact Or.inl ⟨j, by omega, j2⟩
          · refine Or.inr ⟨fun j hj => ?_, j2⟩
            rcases Nat.lt_or_ge j i with g | g
            · exact j1 j g
            · rw [show j = i by omega]; exact u
        have o1 : N 2 0 - (i + 1) ≤ k := by clear h3 no yes; omega
        have o2 : i + 1 ≤ N 2 0 := by clear h3 no yes; omega
        refine ⟨ein, fun a1 => ?_, fun a1 => ⟨ein, fun a2 => ?_, fun a2 => ⟨fun a3 => ?_, fun a3 => ⟨ein, fun a4 => ?_, fun a4 => ?_⟩⟩⟩⟩
        · exact zJ_loc (sub _ _ _ _ _ _ _) (ih (i + 1) w o1 o2 (no (fun u => a1 (iff.mpr u).1)))
        · exact zJ_loc (sub _ _ _ _ _ _ _) (ih (i + 1) w o1 o2 (no (fun u => a2 (iff.mpr u).2.1)))
        · exact zJ_loc (sub _ _ _ _ _ _ _) (ih (i + 1) (nI i) o1 o2 (Or.inl (yes (iff.mp ⟨a1, a2, Or.inl a3⟩))))
        · exact zJ_loc (sub _ _ _ _ _ _ _) (ih (i + 1) w o1 o2 (no (fun u => (iff.mpr u).2.2.elim a3 a4)))
        · exact zJ_loc (sub _ _ _ _ _ _ _) (ih (i + 1) (nI i) o1 o2 (Or.inl (yes (iff.mp ⟨a1, a2, Or.inr a4⟩))))
  refine zgo (cut := fun q => q == 6) 60 C lk_M hR ?_
  simp only [zs_iconst, zs_iload_n, zs_iload, zs_aload_n, zs_istore, zs_if_eq, zs_icmp_eq, zs_icmp_ne, zs_icmp_ge, zs_goto, zs_iinc, zs_get, zs_iaload, zs_ireturn, zx_iv, zx_is, zx_it, zx_nw, zx_na, zx_an, zx_cc, zx_gs, zx_as, zx_ae, zx_ac, zx_at, zr_seg, zr_t, zr_f, zr_tp, zr_fp, zr_lg, zr_lr, zr_lr0, zr_wi, zr_wr, zr_wn, zr_wl, zr_vo, zr_so, zr_sI, zr_sL, zr_sA, zr_sN, zr_in, zr_rd, zr_wr2, zr_kf, zr_k0, zr_k1, zr_k2, zr_k3, zr_k3n, zr_k10, zr_k11, zr_k12, zr_k13, zr_k13n, zr_ai, zr_af, zr_aw, zr_aL, zr_Lf, zr_Lw, zr_l2, zr_l20, zr_al, zr_an, zr_aq, zr_ag, zr_rfs, zr_rfn, zr_r1, zr_r2, zr_w0, zr_w1, zr_tl, zr_40, zr_41, zr_42, zr_43, d_M_findConsent_0, ci_m1, d_M_findConsent_1, d_M_findConsent_3, ci_0, d_M_findConsent_4, d_M_findConsent_6, d_M_findConsent_8, d_M_findConsent_9, fl_M_114, d_M_findConsent_12, zt_12_68, zo_12_68, d_M_findConsent_15, d_M_findConsent_16, fl_M_57, d_M_findConsent_19, d_M_findConsent_21, d_M_findConsent_22, d_M_findConsent_23, zt_23_34, zo_23_34, d_M_findConsent_26, d_M_findConsent_27, fl_M_60, d_M_findConsent_30, d_M_findConsent_32, d_M_findConsent_33, d_M_findConsent_34, zt_34_23, zo_34_23, d_M_findConsent_37, d_M_findConsent_38, ci_2, d_M_findConsent_39, zt_39_14, zo_39_14, d_M_findConsent_42, d_M_findConsent_43, fl_M_63, d_M_findConsent_46, d_M_findConsent_48, d_M_findConsent_49, d_M_findConsent_50, zt_50_7, zo_50_7, d_M_findConsent_53, ci_1, d_M_findConsent_54, zt_54_4, zo_54_4, d_M_findConsent_57, d_M_findConsent_58, d_M_findConsent_60, d_M_findConsent_62, zt_62_8, zo_62_8, d_M_findConsent_65, d_M_findConsent_67, zt_67_5, zo_67_5, d_M_findConsent_70, d_M_findConsent_72, d_M_findConsent_74, d_M_findConsent_77, zt_77_m71, zo_77_m71, d_M_findConsent_80, d_M_findConsent_82, za_0, za_i, za_r, za_n, za_l, zu_s, zu_u, Nat.reduceAdd, Nat.reduceLT, Nat.reduceBEq, Nat.zero_add, Bool.false_or, Bool.or_false, Bool.true_or, Bool.or_true, Bool.false_and, Bool.and_false, Bool.true_and, Bool.and_true, true_and, and_true, true_or, or_true, eq_self, Nat.le_refl, List.getElem?_cons_succ, List.getElem?_cons_zero, List.set_cons_succ, List.set_cons_zero, zk_0, zk_1, zk_2, zk_3, zk_4, zq_1, zq_2, Option.isSome_some, Option.getD_some, Option.toList_some, Option.toList_none, List.cons_append, List.nil_append, true_implies, false_implies, not_true_eq_false, not_false_eq_true, zn_10, Int32.reduceLT, Int32.reduceLE, implies_true, and_self]
  exact loop (N 2 0) 0 (-1) (by omega) (by omega) (Or.inr ⟨fun j hj => absurd hj (by omega), rfl⟩)
theorem zc_eq {x y : Int64} : (lg_cmp x y = 0) = (x = y) := by
  unfold lg_cmp
  split
  · rename_i h
    exact propext ⟨fun q => absurd q (by decide), fun q => by subst q; exact absurd h (by (simp only [Int32.lt_iff_toInt_lt, Int32.le_iff_toInt_le, ← Int32.toInt_inj, Int32.reduceToInt, Int64.lt_iff_toInt_lt, Int64.le_iff_toInt_le, ← Int64.toInt_inj, Int64.reduceToInt, Int32.toInt_toInt64] at *; omega))⟩
  · split
    · rename_i h; exact propext ⟨fun _ => h, fun _ => rfl⟩
    · rename_i h; exact propext ⟨fun q => absurd q (by decide), fun q => absurd q h⟩
set_option maxHeartbeats 4000000 in
set_option maxRecDepth 100000 in
theorem c_M_canBe (l : Launch) (D : va_G) (dA : Nat → ClassId) (z : Nat) (M : zVw) (rl : Nat → Nat) (B : Nat → Nat) (I : Nat → Nat → Int32) (L : Nat → Nat → Int64) (tb1 it a : Nat) (F : Nat → Int32) (sv kind dev day : Int32) (hr : zRf M rl dA B I L) (ha : a = 61 * tb1 + it) (h5 : a < 549) (hw : zRow I L a F sv) (hb : F 2 = 0 ∨ F 2 = 1) : zMet l y_M_canBe b_M_canBe 9 (some .boolean) 0 0 0 0 D dA z [.ref (B 0), .int (nI tb1), .int (nI it), .int kind, .int dev, .long day.toInt64] M (fun v M' => M' = M ∧ v = some (.int (zb (fAllow F kind dev day)))) := by
  have h0 := rf_0 hr
  have h7 := rf_7 hr
  have h9 := rf_9 hr
  have h12 := rf_12 hr
  have h13 := rf_13 hr
  have h15 := rf_15 hr
  have e1 : vp_in (nI a) 549 := vp_in_nI h5 (by omega)
  have e2 : (nI a).toNatClampNeg = a := nI_clamp (by omega)
  have e3 := at_e tb1 it
  rw [← ha] at e3
  obtain ⟨w0, w1, w2, w3, w4, w5, w6, w7⟩ := hw
  refine z_of 2 false (by decide) (fun h => by first | rfl | cases h) (Nat.le_of_ble_eq_true rfl) trivial ?_
  intro p e s m args below meth c C hR
  refine zgo (cut := fun _ => false) 80 C lk_M hR ?_
  simp only [zs_iconst, zs_bipush, zs_iload_n, zs_iload, zs_lload, zs_aload_n, zs_istore, zs_iadd, zs_imul, zs_lcmp, zs_if_eq, zs_if_ne, zs_if_le, zs_icmp_ne, zs_icmp_lt, zs_icmp_ge, zs_icmp_gt, zs_goto, zs_tsw, zs_get, zs_iaload, zs_laload, zs_baload, zs_ireturn, zx_iv, zx_is, zx_it, zx_nw, zx_na, zx_an, zx_cc, zx_gs, zx_as, zx_ae, zx_ac, zx_at, zr_seg, zr_t, zr_f, zr_tp, zr_fp, zr_lg, zr_lr, zr_lr0, zr_wi, zr_wr, zr_wn, zr_wl, zr_vo, zr_so, zr_sI, zr_sL, zr_sA, zr_sN, zr_in, zr_rd, zr_wr2, zr_kf, zr_k0, zr_k1, zr_k2, zr_k3, zr_k3n, zr_k10, zr_k11, zr_k12, zr_k13, zr_k13n, zr_ai, zr_af, zr_aw, zr_aL, zr_Lf, zr_Lw, zr_l2, zr_l20, zr_al, zr_an, zr_aq, zr_ag, zr_rfs, zr_rfn, zr_r1, zr_r2, zr_w0, zr_w1, zr_tl, zr_40, zr_41, zr_42, zr_43, d_M_canBe_0, cb_61, d_M_canBe_2, d_M_canBe_3, d_M_canBe_4, d_M_canBe_5, d_M_canBe_6, d_M_canBe_8, d_M_canBe_9, fl_M_30, d_M_canBe_12, d_M_canBe_14, d_M_canBe_15, d_M_canBe_17, d_M_canBe_18, sw_0, sw_1, sw_2, sw_3, sw_4, sw_5, sw_6, Int.reduceAdd, Int.zero_add, zt_18_143, zo_18_143, zt_18_34, zo_18_34, zt_18_46, zo_18_46, zt_18_76, zo_18_76, zt_18_99, zo_18_99, d_M_canBe_52, d_M_canBe_54, ci_3, d_M_canBe_55, zt_55_7, zo_55_7, d_M_canBe_58, ci_1, d_M_canBe_59, zt_59_4, zo_59_4, d_M_canBe_62, ci_0, d_M_canBe_63, d_M_canBe_64, d_M_canBe_66, zt_66_22, zo_66_22, d_M_canBe_69, d_M_canBe_71, d_M_canBe_72, zt_72_20, zo_72_20, d_M_canBe_75, d_M_canBe_77, d_M_canBe_78, fl_M_36, d_M_canBe_81, d_M_canBe_83, d_M_canBe_84, d_M_canBe_85, zt_85_7, zo_85_7, d_M_canBe_88, d_M_canBe_89, zt_89_4, zo_89_4, d_M_canBe_92, d_M_canBe_93, d_M_canBe_94, d_M_canBe_96, cb_7, d_M_canBe_98, zt_98_17, zo_98_17, d_M_canBe_101, d_M_canBe_102, fl_M_54, d_M_canBe_105, d_M_canBe_107, d_M_canBe_108, zt_108_7, zo_108_7, d_M_canBe_111, d_M_canBe_112, zt_112_4, zo_112_4, d_M_canBe_115, d_M_canBe_116, d_M_canBe_117, d_M_canBe_119, d_M_canBe_120, zt_120_39, zo_120_39, d_M_canBe_123, d_M_canBe_125, cb_6, d_M_canBe_127, zt_127_32, zo_127_32, d_M_canBe_130, d_M_canBe_131, fl_M_45, d_M_canBe_134, d_M_canBe_136, d_M_canBe_137, d_M_canBe_139, zt_139_20, zo_139_20, d_M_canBe_142, d_M_canBe_143, fl_M_48, d_M_canBe_146, d_M_canBe_148, d_M_canBe_149, d_M_canBe_151, d_M_canBe_152, zt_152_7, zo_152_7, d_M_canBe_155, d_M_canBe_156, zt_156_4, zo_156_4, d_M_canBe_159, d_M_canBe_160, d_M_canBe_161, d_M_canBe_163, ci_2, d_M_canBe_164, zt_164_7, zo_164_7, d_M_canBe_167, d_M_canBe_168, zt_168_4, zo_168_4, d_M_canBe_171, d_M_canBe_172, za_0, za_i, za_r, za_n, za_l, zu_s, zu_u, Nat.reduceAdd, Nat.reduceLT, Nat.reduceBEq, Nat.zero_add, Bool.false_or, Bool.or_false, Bool.true_or, Bool.or_true, Bool.false_and, Bool.and_false, Bool.true_and, Bool.and_true, true_and, and_true, true_or, or_true, eq_self, Nat.le_refl, List.getElem?_cons_succ, List.getElem?_cons_zero, List.set_cons_succ, List.set_cons_zero, zk_0, zk_1, zk_2, zk_3, zk_4, zq_1, zq_2, Option.isSome_some, Option.getD_some, Option.toList_some, Option.toList_none, List.cons_append, List.nil_append, h0, h7, h9, h12, h13, h15, e1, e2, e3, w0, w2, w4, zc_le, zc_eq, true_implies, false_implies, not_true_eq_false, not_false_eq_true, zn_10, Int32.reduceLT, Int32.reduceLE, implies_true, and_self]
  clear C hR hr h0 h7 h9 h12 h13 h15 e1 e2 e3
  refine ⟨?_, ?_, ?_, ?_, ?_, fun hk => ⟨?_, fun h3 => ⟨?_, fun h6 => ?_⟩⟩⟩
  · clear w6; (repeat' first | apply And.intro | intro _) <;> first | (rw [zb_t (by (simp only [Int32.lt_iff_toInt_lt, Int32.le_iff_toInt_le, ← Int32.toInt_inj, Int32.reduceToInt, Int64.lt_iff_toInt_lt, Int64.le_iff_toInt_le, ← Int64.toInt_inj, Int64.reduceToInt, Int32.toInt_toInt64, fAllow] at *; omega))]; done) | (rw [zb_f (by (simp only [Int32.lt_iff_toInt_lt, Int32.le_iff_toInt_le, ← Int32.toInt_inj, Int32.reduceToInt, Int64.lt_iff_toInt_lt, Int64.le_iff_toInt_le, ← Int64.toInt_inj, Int64.reduceToInt, Int32.toInt_toInt64, fAllow] at *; omega))]; done)
  · clear w6; (repeat' first | apply And.intro | intro _) <;> first | (rw [zb_t (by (simp only [Int32.lt_iff_toInt_lt, Int32.le_iff_toInt_le, ← Int32.toInt_inj, Int32.reduceToInt, Int64.lt_iff_toInt_lt, Int64.le_iff_toInt_le, ← Int64.toInt_inj, Int64.reduceToInt, Int32.toInt_toInt64, fAllow] at *; omega))]; done) | (rw [zb_f (by (simp only [Int32.lt_iff_toInt_lt, Int32.le_iff_toInt_le, ← Int32.toInt_inj, Int32.reduceToInt, Int64.lt_iff_toInt_lt, Int64.le_iff_toInt_le, ← Int64.toInt_inj, Int64.reduceToInt, Int32.toInt_toInt64, fAllow] at *; omega))]; done)
  · clear w6; (repeat' first | apply And.intro | intro _) <;> first | (rw [zb_t (by (simp only [Int32.lt_iff_toInt_lt, Int32.le_iff_toInt_le, ← Int32.toInt_inj, Int32.reduceToInt, Int64.lt_iff_toInt_lt, Int64.le_iff_toInt_le, ← Int64.toInt_inj, Int64.reduceToInt, Int32.toInt_toInt64, fAllow] at *; omega))]; done) | (rw [zb_f (by (simp only [Int32.lt_iff_toInt_lt, Int32.le_iff_toInt_le, ← Int32.toInt_inj, Int32.reduceToInt, Int64.lt_iff_toInt_lt, Int64.le_iff_toInt_le, ← Int64.toInt_inj, Int64.reduceToInt, Int32.toInt_toInt64, fAllow] at *; omega))]; done)
  · clear w6; (repeat' first | apply And.intro | intro _) <;> first | (rw [zb_t (by (simp only [Int32.lt_iff_toInt_lt, Int32.le_iff_toInt_le, ← Int32.toInt_inj, Int32.reduceToInt, Int64.lt_iff_toInt_lt, Int64.le_iff_toInt_le, ← Int64.toInt_inj, Int64.reduceToInt, Int32.toInt_toInt64, fAllow] at *; omega))]; done) | (rw [zb_f (by (simp only [Int32.lt_iff_toInt_lt, Int32.le_iff_toInt_le, ← Int32.toInt_inj, Int32.reduceToInt, Int64.lt_iff_toInt_lt, Int64.le_iff_toInt_le, ← Int64.toInt_inj, Int64.reduceToInt, Int32.toInt_toInt64, fAllow] at *; omega))]; done)
  · clear w6; (repeat' first | apply And.intro | intro _) <;> first | (rw [zb_t (by (simp only [Int32.lt_iff_toInt_lt, Int32.le_iff_toInt_le, ← Int32.toInt_inj, Int32.reduceToInt, Int64.lt_iff_toInt_lt, Int64.le_iff_toInt_le, ← Int64.toInt_inj, Int64.reduceToInt, Int32.toInt_toInt64, fAllow] at *; omega))]; done) | (rw [zb_f (by (simp only [Int32.lt_iff_toInt_lt, Int32.le_iff_toInt_le, ← Int32.toInt_inj, Int32.reduceToInt, Int64.lt_iff_toInt_lt, Int64.le_iff_toInt_le, ← Int64.toInt_inj, Int64.reduceToInt, Int32.toInt_toInt64, fAllow] at *; omega))]; done)
  · clear w6; (repeat' first | apply And.intro | intro _) <;> first | (rw [zb_t (by (simp only [Int32.lt_iff_toInt_lt, Int32.le_iff_toInt_le, ← Int32.toInt_inj, Int32.reduceToInt, Int64.lt_iff_toInt_lt, Int64.le_iff_toInt_le, ← Int64.toInt_inj, Int64.reduceToInt, Int32.toInt_toInt64, fAllow] at *; omega))]; done) | (rw [zb_f (by (simp only [Int32.lt_iff_toInt_lt, Int32.le_iff_toInt_le, ← Int32.toInt_inj, Int32.reduceToInt, Int64.lt_iff_toInt_lt, Int64.le_iff_toInt_le, ← Int64.toInt_inj, Int64.reduceToInt, Int32.toInt_toInt64, fAllow] at *; omega))]; done)
  · clear w6; (repeat' first | apply And.intro | intro _) <;> first | (rw [zb_t (by (simp only [Int32.lt_iff_toInt_lt, Int32.le_iff_toInt_le, ← Int32.toInt_inj, Int32.reduceToInt, Int64.lt_iff_toInt_lt, Int64.le_iff_toInt_le, ← Int64.toInt_inj, Int64.reduceToInt, Int32.toInt_toInt64, fAllow] at *; omega))]; done) | (rw [zb_f (by (simp only [Int32.lt_iff_toInt_lt, Int32.le_iff_toInt_le, ← Int32.toInt_inj, Int32.reduceToInt, Int64.lt_iff_toInt_lt, Int64.le_iff_toInt_le, ← Int64.toInt_inj, Int64.reduceToInt, Int32.toInt_toInt64, fAllow] at *; omega))]; done)
  · obtain ⟨g1, g2, _⟩ := w6 (by clear w6; (simp only [Int32.lt_iff_toInt_lt, Int32.le_iff_toInt_le, ← Int32.toInt_inj, Int32.reduceToInt] at *; omega))
    rw [g1, g2]
    clear w6
    (repeat' first | apply And.intro | intro _) <;> first | (rw [zb_t (by (simp only [Int32.lt_iff_toInt_lt, Int32.le_iff_toInt_le, ← Int32.toInt_inj, Int32.reduceToInt, Int64.lt_iff_toInt_lt, Int64.le_iff_toInt_le, ← Int64.toInt_inj, Int64.reduceToInt, Int32.toInt_toInt64, fAllow] at *; omega))]; done) | (rw [zb_f (by (simp only [Int32.lt_iff_toInt_lt, Int32.le_iff_toInt_le, ← Int32.toInt_inj, Int32.reduceToInt, Int64.lt_iff_toInt_lt, Int64.le_iff_toInt_le, ← Int64.toInt_inj, Int64.reduceToInt, Int32.toInt_toInt64, fAllow] at *; omega))]; done)
