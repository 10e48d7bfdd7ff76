/-! The reference: cut. -/
def cpy {α : Type} (f : Nat → α) (d i : Nat) : Nat → α := fun x => if 61 * d ≤ x ∧ x < 61 * d + i then f (488 + (x - 61 * d)) else f x
theorem cpy_0 {α : Type} (f : Nat → α) (d : Nat) : cpy f d 0 = f := by
  funext x; unfold cpy; rw [if_neg (by omega)]
theorem cpy_o {α : Type} {f : Nat → α} {d i x : Nat} (h : ¬ (61 * d ≤ x ∧ x < 61 * d + i)) : cpy f d i x = f x := if_neg h
theorem cpy_i {α : Type} {f : Nat → α} {d i y : Nat} (h : y < i) : cpy f d i (61 * d + y) = f (488 + y) := by
  unfold cpy; rw [if_pos (by omega), show 61 * d + y - 61 * d = y by omega]
theorem cpy_s {f : Nat → Int32} {d i : Nat} (hd : d < 8) (hi : i < 61) : upd (cpy f d i) (61 * d + i) (cpy f d i (488 + i)) = cpy f d (i + 1) := by
  funext x
  by_cases e : x = 61 * d + i
  · subst e; rw [upd_s, cpy_o (by omega), cpy_i (by omega)]
  · rw [upd_n e]
    unfold cpy
    by_cases u : 61 * d ≤ x ∧ x < 61 * d + i
    · rw [if_pos u, if_pos (by omega)]
    · rw [if_neg u, if_neg (by omega)]
theorem cpy_sL {f : Nat → Int64} {d i : Nat} (hd : d < 8) (hi : i < 61) : vp_updL (cpy f d i) (61 * d + i) (cpy f d i (488 + i)) = cpy f d (i + 1) := by
  funext x
  by_cases e : x = 61 * d + i
  · subst e; rw [updL_s, cpy_o (by omega), cpy_i (by omega)]
  · rw [updL_n e]
    unfold cpy
    by_cases u : 61 * d ≤ x ∧ x < 61 * d + i
    · rw [if_pos u, if_pos (by omega)]
    · rw [if_neg u, if_neg (by omega)]
def zCpd (I : Nat → Nat → Int32) (L : Nat → Nat → Int64) (I1 : Nat → Nat → Int32) (L1 : Nat → Nat → Int64) (d i : Nat) : Prop := I1 7 = cpy (I 7) d i ∧ I1 8 = cpy (I 8) d i ∧ I1 11 = cpy (I 11) d i ∧ I1 12 = cpy (I 12) d i ∧ I1 14 = cpy (I 14) d i ∧ I1 15 = cpy (I 15) d i ∧ L1 9 = cpy (L 9) d i ∧ L1 10 = cpy (L 10) d i ∧ L1 13 = cpy (L 13) d i ∧ I1 0 = I 0 ∧ I1 1 = I 1 ∧ I1 2 = I 2 ∧ I1 4 = I 4 ∧ I1 5 = I 5 ∧ I1 6 = I 6 ∧ I1 17 = I 17 ∧ I1 18 = I 18 ∧ I1 19 = I 19 ∧ I1 20 = I 20 ∧ I1 21 = I 21 ∧ I1 23 = I 23 ∧ I1 24 = I 24 ∧ I1 25 = I 25 ∧ I1 26 = I 26 ∧ I1 27 = I 27 ∧ I1 30 = I 30 ∧ I1 31 = I 31 ∧ I1 32 = I 32 ∧ L1 0 = L 0 ∧ L1 3 = L 3 ∧ L1 22 = L 22 ∧ L1 28 = L 28
theorem zOp_6 {S : Nat → Nat → Nat → Int32} {N : Nat → Nat → Nat} {d y : Nat} : ∀ k, y < k → k ≤ 100 → (zOp S N d k).1 6 (100 * d + y) = S 1 y
  | 0, h, _ => absurd h (by omega)
  | k + 1, h, h2 => by
    show zS (zOp S N d k).1 6 (100 * d + k) (S 1 k) 6 (100 * d + y) = _
    by_cases e : y = k
    · subst e; rw [zS_e]
    · rw [zS_n (by omega)]
      exact zOp_6 k (by omega) (by omega)
theorem zOp_6o {S : Nat → Nat → Nat → Int32} {N : Nat → Nat → Nat} {d q : Nat} : ∀ k, (∀ y, y < k → q ≠ 100 * d + y) → (zOp S N d k).1 6 q = S 6 q
  | 0, _ => by
    show zS S 4 d (fun _ => 1) 6 q = _
    exact zS_t (by decide)
  | k + 1, h => by
    show zS (zOp S N d k).1 6 (100 * d + k) (S 1 k) 6 q = _
    rw [zS_n (h k (by omega))]
    exact zOp_6o k (fun y hy => h y (by omega))
theorem zOp_4s {S : Nat → Nat → Nat → Int32} {N : Nat → Nat → Nat} {d d' : Nat} : ∀ k, (zOp S N d k).1 4 d' = if d' = d then (fun _ => 1) else S 4 d'
  | 0 => by
    show zS S 4 d (fun _ => 1) 4 d' = _
    by_cases e : d' = d
    · subst e; rw [zS_e, if_pos rfl]
    · rw [zS_n e, if_neg e]
  | k + 1 => by
    show zS (zOp S N d k).1 6 (100 * d + k) (S 1 k) 4 d' = _
    rw [zS_t (by decide)]
    exact zOp_4s k
theorem zOp_4o {S : Nat → Nat → Nat → Int32} {N : Nat → Nat → Nat} {d d' : Nat} (h : d' ≠ d) : ∀ k, (zOp S N d k).2 4 d' = N 4 d'
  | 0 => rfl
  | k + 1 => by
    show (if _ then zN1 (zOp S N d k).2 4 d (k + 1) else (zOp S N d k).2) 4 d' = _
    split
    · rw [zN_n h]; exact zOp_4o h k
    · exact zOp_4o h k
theorem zRow_c {I I1 : Nat → Nat → Int32} {L L1 : Nat → Nat → Int64} {a b : Nat} {F : Nat → Int32} {sv : Int32} (h : I1 7 b = I 7 a ∧ I1 8 b = I 8 a ∧ I1 11 b = I 11 a ∧ I1 12 b = I 12 a ∧ I1 14 b = I 14 a ∧ I1 15 b = I 15 a ∧ L1 9 b = L 9 a ∧ L1 10 b = L 10 a ∧ L1 13 b = L 13 a) (hw : zRow I L a F sv) : zRow I1 L1 b F sv := by
  obtain ⟨q7, q8, q11, q12, q14, q15, q9, q10, q13⟩ := h
  unfold zRow
  rw [q7, q8, q11, q12, q14, q15, q9, q10, q13]
  exact hw
section KC
variable {S : Nat → Nat → Nat → Int32} {N : Nat → Nat → Nat} {T : Nat → Int64} {I I1 : Nat → Nat → Int32} {L L1 : Nat → Nat → Int64} {d : Nat}
theorem rel_on2 (hq : zRel S N T I L) : zRel (zS S 4 d (fun _ => 0)) (zN1 N 3 d 0) T (zI (zI (zI I 20 (upd (I 20) d 0)) 23 (upd (I 23) d 0)) 21 (upd (I 21) d (nI (N 0 0)))) L := by
  refine ⟨hq.ic, hq.it, hq.fr, hq.cc, hq.cl, hq.nc, hq.co, hq.cu, fun d' hd' => ?_, fun d' hd' ho => ?_, fun d' i hd' hi => ?_, hq.td⟩
  · obtain ⟨g1, g2, g3, g4, g5⟩ := hq.dv d' hd'
    show upd (I 20) d 0 d' = _ ∧ _ ∧ _ ∧ upd (I 23) d 0 d' = _ ∧ _
    by_cases u : d' = d
    · subst u
      rw [upd_s, upd_s, zS_e, zN_e]
      exact ⟨rfl, g2, g3, rfl, fun _ => rfl⟩
    · rw [upd_n u, upd_n u, zS_n u, zN_n u]
      exact ⟨g1, g2, g3, g4, g5⟩
  · by_cases u : d' = d
    · subst u
      rw [zS_e] at ho
      exact absurd rfl ho
    · rw [zS_n u] at ho
      show upd (I 21) d (nI (N 0 0)) d' = _ ∧ _
      rw [upd_n u]
      exact hq.kn d' hd' ho
  · by_cases u : d' = d
    · subst u
      rw [zN_e] at hi
      exact absurd hi (by omega)
    · rw [zN_n u] at hi
      exact hq.rw d' i hd' hi
theorem rel_cut (hq : zRel S N T I L) (hb : zBd N) (hd : d < 8) (ho : S 4 d 0 = 0) (hc : zCpd (zI (zI (zI I 20 (upd (I 20) d 1)) 23 (upd (I 23) d 0)) 21 (upd (I 21) d (nI (N 0 0)))) L I1 L1 d 61) : zRel (zOp S N d (N 0 0)).1 (zOp S N d (N 0 0)).2 T I1 L1 := by
  have b0 := hb.b0
  have hn3 : N 3 d = 0 := (hq.dv d hd).2.2.2.2 ho
  obtain ⟨S1, eS⟩ : ∃ S1, S1 = (zOp S N d (N 0 0)).1 := ⟨_, rfl⟩
  obtain ⟨N1, eN⟩ : ∃ N1, N1 = (zOp S N d (N 0 0)).2 := ⟨_, rfl⟩
  have s_o : ∀ t i, t ≠ 4 → t ≠ 6 → S1 t i = S t i := fun t i h4 h6 => by rw [eS]; exact zOp_S h4 h6 _
  have s_4 : ∀ d', S1 4 d' = if d' = d then (fun _ => 1) else S 4 d' := fun d' => by rw [eS]; exact zOp_4s _
  have s_6 : ∀ y, y < N 0 0 → S1 6 (100 * d + y) = S 1 y := fun y hy => by rw [eS]; exact zOp_6 _ hy (by omega)
  have s_6o : ∀ q, (∀ y, y < N 0 0 → q ≠ 100 * d + y) → S1 6 q = S 6 q := fun q h => by rw [eS]; exact zOp_6o _ h
  have n_o : ∀ t i, t ≠ 4 → N1 t i = N t i := fun t i h => by rw [eN]; exact zOp_N h _
  have n_4 : N1 4 d = N 0 0 := by
    rw [eN, zOp_4, if_pos (hb.b3 d hd).2]
  have n_4o : ∀ d', d' ≠ d → N1 4 d' = N 4 d' := fun d' h => by rw [eN]; exact zOp_4o h _
  rw [← eS, ← eN]
  obtain ⟨c7, c8, c11, c12, c14, c15, y9, y10, y13, o0, o1, o2, o4, o5, o6, o17, o18, o19, o20, o21, o23, o24, o25, o26, o27, o30, o31, o32, x0, x3, x22, x28⟩ := hc
  have tk : ∀ x, ¬ (61 * d ≤ x ∧ x < 61 * d + 61) → I1 7 x = I 7 x ∧ I1 8 x = I 8 x ∧ I1 11 x = I 11 x ∧ I1 12 x = I 12 x ∧ I1 14 x = I 14 x ∧ I1 15 x = I 15 x ∧ L1 9 x = L 9 x ∧ L1 10 x = L 10 x ∧ L1 13 x = L 13 x := fun x h => by
    rw [c7, c8, c11, c12, c14, c15, y9, y10, y13]
    exact ⟨cpy_o h, cpy_o h, cpy_o h, cpy_o h, cpy_o h, cpy_o h, cpy_o h, cpy_o h, cpy_o h⟩
  have ti : ∀ y, y < 61 → I1 7 (61 * d + y) = I 7 (488 + y) ∧ I1 8 (61 * d + y) = I 8 (488 + y) ∧ I1 11 (61 * d + y) = I 11 (488 + y) ∧ I1 12 (61 * d + y) = I 12 (488 + y) ∧ I1 14 (61 * d + y) = I 14 (488 + y) ∧ I1 15 (61 * d + y) = I 15 (488 + y) ∧ L1 9 (61 * d + y) = L 9 (488 + y) ∧ L1 10 (61 * d + y) = L 10 (488 + y) ∧ L1 13 (61 * d + y) = L 13 (488 + y) := fun y h => by
    rw [c7, c8, c11, c12, c14, c15, y9, y10, y13]
    exact ⟨cpy_i h, cpy_i h, cpy_i h, cpy_i h, cpy_i h, cpy_i h, cpy_i h, cpy_i h, cpy_i h⟩
  have o20 : I1 20 = upd (I 20) d 1 := o20
  have o21 : I1 21 = upd (I 21) d (nI (N 0 0)) := o21
  have o23 : I1 23 = upd (I 23) d 0 := o23
  have o0 : I1 0 = I 0 := o0
  have o1 : I1 1 = I 1 := o1
  have o2 : I1 2 = I 2 := o2
  have o4 : I1 4 = I 4 := o4
  have o5 : I1 5 = I 5 := o5
  have o6 : I1 6 = I 6 := o6
  have o17 : I1 17 = I 17 := o17
  have o18 : I1 18 = I 18 := o18
  have o19 : I1 19 = I 19 := o19
  have o24 : I1 24 = I 24 := o24
  have o25 : I1 25 = I 25 := o25
  have o26 : I1 26 = I 26 := o26
  have o27 : I1 27 = I 27 := o27
  have o30 : I1 30 = I 30 := o30
  have o31 : I1 31 = I 31 := o31
  have o32 : I1 32 = I 32 := o32
  refine ⟨by rw [o0, n_o 0 0 (by decide)]; exact hq.ic, fun i hi => ?_, fun i h1 h2 => ?_, by rw [o0, n_o 1 0 (by decide)]; exact hq.cc, fun i hi => ?_, by rw [o0, n_o 2 0 (by decide)]; exact hq.nc, fun i hi => ?_, fun i j hi hj => ?_, fun d' hd' => ?_, fun d' hd' ho' => ?_, fun d' i hd' hi => ?_, by rw [x0]; exact hq.td⟩
  · rw [n_o 0 0 (by decide)] at hi
    obtain ⟨g1, g2, g3, g4, g5, g6, g7, g8⟩ := hq.it i hi
    unfold zItR
    rw [s_o 0 i (by decide) (by decide), s_o 1 i (by decide) (by decide), o1, o2, o4, o5, o6, x3]
    exact ⟨g1, g2, g3, g4, g5, g6, zRow_c (tk _ (by omega)) g7, g8⟩
  · rw [n_o 0 0 (by decide)] at h1
    obtain ⟨g1, g2, g3, g4, g5, g6, g7, g8⟩ := hq.fr i h1 h2
    obtain ⟨q7, q8, q11, q12, q14, q15, q9, q10, q13⟩ := tk (488 + i) (by omega)
    unfold zNew
    rw [o5, o6, x3, q8, q9, q10, q14, q15]
    exact ⟨g1, g2, g3, g4, g5, g6, g7, g8⟩
  · rw [n_o 1 0 (by decide)] at hi
    rw [o30, o31, o32, s_o 2 i (by decide) (by decide)]; exact hq.cl i hi
  · rw [n_o 2 0 (by decide)] at hi
    rw [o17, o18, o19, s_o 3 0 (by decide) (by decide)]; exact hq.co i hi
  · rw [n_o 2 0 (by decide)] at hi hj
    rw [s_o 3 0 (by decide) (by decide)]; exact hq.cu i j hi hj
  · rw [o20, o23, x22, n_o 3 d' (by decide), s_4]
    obtain ⟨g1, g2, g3, g4, g5⟩ := hq.dv d' hd'
    by_cases u : d' = d
    · subst u
      rw [upd_s, upd_s, if_pos rfl]
      exact ⟨rfl, g2, g3, by rw [hn3]; rfl, fun _ => hn3⟩
    · rw [upd_n u, upd_n u, if_neg u]
      exact ⟨g1, g2, g3, g4, g5⟩
  · rw [o21]
    by_cases u : d' = d
    · subst u
      rw [upd_s, n_4]
      refine ⟨rfl, fun i hi => ?_⟩
      rw [s_6 i hi, s_o 0 i (by decide) (by decide)]
      exact zRow_c (ti (i + 1) (by omega)) (hq.it i hi).2.2.2.2.2.2.1
    · rw [s_4, if_neg u] at ho'
      rw [upd_n u, n_4o d' u]
      obtain ⟨g1, g2⟩ := hq.kn d' hd' ho'
      have b4 := (hb.b3 d' hd').2
      refine ⟨g1, fun i hi => ?_⟩
      rw [s_6o (100 * d' + i) (fun y hy => by omega), s_o 0 i (by decide) (by decide)]
      exact zRow_c (tk _ (by omega)) (g2 i hi)
  · rw [n_o 3 d' (by decide)] at hi
    have := hq.rw d' i hd' hi
    unfold zRwR at this ⊢
    rw [o24, o25, o26, o27, x28, n_o 5 _ (by decide), s_o 5 _ (by decide) (by decide), s_o 0 _ (by decide) (by decide)]
    exact this
end KC
set_option maxHeartbeats 4000000 in
set_option maxRecDepth 100000 in
theorem c_M_cut (l : Launch) (D : va_G) (dA : Nat → ClassId) (z : Nat) (M : zVw) (rl : Nat → Nat) (B : Nat → Nat) (I : Nat → Nat → Int32) (L : Nat → Nat → Int64) (S S' : Nat → Nat → Nat → Int32) (N N' : Nat → Nat → Nat) (T : Nat → Int64) (dev on r : Int32) (hr : zRf M rl dA B I L) (hq : zRel S N T I L) (hb : zBd N) (hon : on = 0 ∨ on = 1) (h01 : ∀ d, d < 8 → S 4 d 0 = 0 ∨ S 4 d 0 = 1) (hA : zCut S N dev on r S' N') : zMet l y_M_cut b_M_cut 6 (some .boolean) 1 20 0 0 D dA z [.ref (B 0), .int dev, .int on] M (fun v M' => v = some (.int r) ∧ ∃ I' L', zRg M M' rl dA B I' L' ∧ zRel S' N' T I' L') := by
  have h0 := rf_0 hr
  have h20 := rf_20 hr
  have h21 := rf_21 hr
  have h23 := rf_23 hr
  have n_0_20 := rf_ne hr (i := 0) (j := 20) (by decide) (by decide) (by decide)
  have n_0_21 := rf_ne hr (i := 0) (j := 21) (by decide) (by decide) (by decide)
  have n_0_23 := rf_ne hr (i := 0) (j := 23) (by decide) (by decide) (by decide)
  have n_20_21 := rf_ne hr (i := 20) (j := 21) (by decide) (by decide) (by decide)
  have n_20_23 := rf_ne hr (i := 20) (j := 23) (by decide) (by decide) (by decide)
  have n_21_20 := rf_ne hr (i := 21) (j := 20) (by decide) (by decide) (by decide)
  have n_21_23 := rf_ne hr (i := 21) (j := 23) (by decide) (by decide) (by decide)
  have n_23_20 := rf_ne hr (i := 23) (j := 20) (by decide) (by decide) (by decide)
  have n_23_21 := rf_ne hr (i := 23) (j := 21) (by decide) (by decide) (by decide)
  have hic := hq.ic
  have b0 := hb.b0
  refine z_of 2 false (by decide) (fun h => by first | rfl | cases h) (Nat.le_of_ble_eq_true rfl) trivial ?_
  intro p e s m args below meth c C hR
  refine zgo (cut := fun _ => false) 60 C lk_M hR ?_
  simp only [zs_iconst, zs_bipush, zs_sipush, zs_iload_n, zs_iload, zs_aload_n, zs_istore_n, zs_istore, zs_iadd, zs_imul, zs_if_eq, zs_icmp_ne, zs_icmp_ge, zs_goto, zs_iinc, zs_get, zs_iaload, zs_iastore, zs_laload, zs_lastore, zs_baload, zs_bastore, zs_ireturn, zx_iv, zx_is, zx_it, zx_nw, zx_na, zx_an, zx_cc, zx_gs, zx_as, zx_ae, zx_ac, zx_at, zr_seg, zr_t, zr_f, zr_tp, zr_fp, zr_lg, zr_lr, zr_lr0, zr_wi, zr_wr, zr_wn, zr_wl, zr_vo, zr_so, zr_sI, zr_sL, zr_sA, zr_sN, zr_in, zr_rd, zr_wr2, zr_kf, zr_k0, zr_k1, zr_k2, zr_k3, zr_k3n, zr_k10, zr_k11, zr_k12, zr_k13, zr_k13n, zr_ai, zr_af, zr_aw, zr_aL, zr_Lf, zr_Lw, zr_l2, zr_l20, zr_al, zr_an, zr_aq, zr_ag, zr_rfs, zr_rfn, zr_r1, zr_r2, zr_w0, zr_w1, zr_tl, zr_40, zr_41, zr_42, zr_43, d_M_cut_0, d_M_cut_1, d_M_cut_4, zt_4_13, zo_4_13, d_M_cut_7, d_M_cut_8, fl_M_66, d_M_cut_11, d_M_cut_12, d_M_cut_13, d_M_cut_14, zt_14_5, zo_14_5, d_M_cut_17, ci_0, d_M_cut_18, d_M_cut_19, d_M_cut_20, d_M_cut_23, d_M_cut_24, d_M_cut_25, d_M_cut_26, d_M_cut_27, fl_M_75, d_M_cut_30, d_M_cut_31, d_M_cut_32, d_M_cut_33, d_M_cut_34, fl_M_69, d_M_cut_37, d_M_cut_38, d_M_cut_39, fl_M_102, d_M_cut_42, d_M_cut_43, d_M_cut_44, d_M_cut_45, d_M_cut_46, cb_61, d_M_cut_48, zt_48_154, zo_48_154, d_M_cut_51, d_M_cut_52, zt_52_150, zo_52_150, d_M_cut_55, d_M_cut_57, d_M_cut_58, d_M_cut_59, d_M_cut_60, d_M_cut_61, d_M_cut_63, cs_488, d_M_cut_66, d_M_cut_67, d_M_cut_68, d_M_cut_70, d_M_cut_71, fl_M_30, d_M_cut_74, d_M_cut_76, d_M_cut_77, d_M_cut_80, d_M_cut_82, d_M_cut_83, d_M_cut_84, d_M_cut_85, fl_M_33, d_M_cut_88, d_M_cut_90, d_M_cut_91, d_M_cut_94, d_M_cut_96, d_M_cut_97, d_M_cut_98, d_M_cut_99, fl_M_36, d_M_cut_102, d_M_cut_104, d_M_cut_105, d_M_cut_108, d_M_cut_110, d_M_cut_111, d_M_cut_112, d_M_cut_113, fl_M_39, d_M_cut_116, d_M_cut_118, d_M_cut_119, d_M_cut_122, d_M_cut_124, d_M_cut_125, d_M_cut_126, d_M_cut_127, fl_M_42, d_M_cut_130, d_M_cut_132, d_M_cut_133, d_M_cut_136, d_M_cut_138, d_M_cut_139, d_M_cut_140, d_M_cut_141, fl_M_45, d_M_cut_144, d_M_cut_146, d_M_cut_147, d_M_cut_150, d_M_cut_152, d_M_cut_153, d_M_cut_154, d_M_cut_155, fl_M_48, d_M_cut_158, d_M_cut_160, d_M_cut_161, d_M_cut_164, d_M_cut_166, d_M_cut_167, d_M_cut_168, d_M_cut_169, fl_M_51, d_M_cut_172, d_M_cut_174, d_M_cut_175, d_M_cut_178, d_M_cut_180, d_M_cut_181, d_M_cut_182, d_M_cut_183, fl_M_54, d_M_cut_186, d_M_cut_188, d_M_cut_189, d_M_cut_192, d_M_cut_194, d_M_cut_195, d_M_cut_196, ci_1, d_M_cut_199, zt_199_m154, zo_199_m154, d_M_cut_202, d_M_cut_203, za_0, za_i, za_r, za_n, za_l, zu_s, zu_u, Nat.reduceAdd, Nat.reduceLT, Nat.reduceBEq, Nat.zero_add, Bool.false_or, Bool.or_false, Bool.true_or, Bool.or_true, Bool.false_and, Bool.and_false, Bool.true_and, Bool.and_true, true_and, and_true, true_or, or_true, eq_self, Nat.le_refl, List.getElem?_cons_succ, List.getElem?_cons_zero, List.set_cons_succ, List.set_cons_zero, zk_0, zk_1, zk_2, zk_3, zk_4, zq_1, zq_2, Option.isSome_some, Option.getD_some, Option.toList_some, Option.toList_none, List.cons_append, List.nil_append, true_implies, false_implies, not_true_eq_false, not_false_eq_true, zn_10, Int32.reduceLT, Int32.reduceLE, implies_true, and_self]
  refine zJ_callS (As := [.int dev]) (rest := []) C d_M_cut_1 (c_M_isDevice l D dA z M dev) k_M_147 s_M_isDevice ⟨(Nat.le_of_ble_eq_true rfl), (Nat.le_of_ble_eq_true rfl)⟩ ⟨(Nat.le_of_ble_eq_true rfl), (Nat.le_of_ble_eq_true rfl)⟩ rfl (Nat.le_of_ble_eq_true rfl) ?_
  rintro v M9 ⟨e0, rfl⟩; have e0 := e0.symm; subst e0
  rcases hA with ⟨hd, rfl, rfl, rfl⟩ | ⟨d, hd, rfl, hA⟩
  · rw [zb_f hd]
    refine zgo (cut := fun _ => false) 60 C lk_M hR ?_
    simp only [zs_iconst, zs_bipush, zs_sipush, zs_iload_n, zs_iload, zs_aload_n, zs_istore_n, zs_istore, zs_iadd, zs_imul, zs_if_eq, zs_icmp_ne, zs_icmp_ge, zs_goto, zs_iinc, zs_get, zs_iaload, zs_iastore, zs_laload, zs_lastore, zs_baload, zs_bastore, zs_ireturn, zx_iv, zx_is, zx_it, zx_nw, zx_na, zx_an, zx_cc, zx_gs, zx_as, zx_ae, zx_ac, zx_at, zr_seg, zr_t, zr_f, zr_tp, zr_fp, zr_lg, zr_lr, zr_lr0, zr_wi, zr_wr, zr_wn, zr_wl, zr_vo, zr_so, zr_sI, zr_sL, zr_sA, zr_sN, zr_in, zr_rd, zr_wr2, zr_kf, zr_k0, zr_k1, zr_k2, zr_k3, zr_k3n, zr_k10, zr_k11, zr_k12, zr_k13, zr_k13n, zr_ai, zr_af, zr_aw, zr_aL, zr_Lf, zr_Lw, zr_l2, zr_l20, zr_al, zr_an, zr_aq, zr_ag, zr_rfs, zr_rfn, zr_r1, zr_r2, zr_w0, zr_w1, zr_tl, zr_40, zr_41, zr_42, zr_43, d_M_cut_0, d_M_cut_1, d_M_cut_4, zt_4_13, zo_4_13, d_M_cut_7, d_M_cut_8, fl_M_66, d_M_cut_11, d_M_cut_12, d_M_cut_13, d_M_cut_14, zt_14_5, zo_14_5, d_M_cut_17, ci_0, d_M_cut_18, d_M_cut_19, d_M_cut_20, d_M_cut_23, d_M_cut_24, d_M_cut_25, d_M_cut_26, d_M_cut_27, fl_M_75, d_M_cut_30, d_M_cut_31, d_M_cut_32, d_M_cut_33, d_M_cut_34, fl_M_69, d_M_cut_37, d_M_cut_38, d_M_cut_39, fl_M_102, d_M_cut_42, d_M_cut_43, d_M_cut_44, d_M_cut_45, d_M_cut_46, cb_61, d_M_cut_48, zt_48_154, zo_48_154, d_M_cut_51, d_M_cut_52, zt_52_150, zo_52_150, d_M_cut_55, d_M_cut_57, d_M_cut_58, d_M_cut_59, d_M_cut_60, d_M_cut_61, d_M_cut_63, cs_488, d_M_cut_66, d_M_cut_67, d_M_cut_68, d_M_cut_70, d_M_cut_71, fl_M_30, d_M_cut_74, d_M_cut_76, d_M_cut_77, d_M_cut_80, d_M_cut_82, d_M_cut_83, d_M_cut_84, d_M_cut_85, fl_M_33, d_M_cut_88, d_M_cut_90, d_M_cut_91, d_M_cut_94, d_M_cut_96, d_M_cut_97, d_M_cut_98, d_M_cut_99, fl_M_36, d_M_cut_102, d_M_cut_104, d_M_cut_105, d_M_cut_108, d_M_cut_110, d_M_cut_111, d_M_cut_112, d_M_cut_113, fl_M_39, d_M_cut_116, d_M_cut_118, d_M_cut_119, d_M_cut_122, d_M_cut_124, d_M_cut_125, d_M_cut_126, d_M_cut_127, fl_M_42, d_M_cut_130, d_M_cut_132, d_M_cut_133, d_M_cut_136, d_M_cut_138, d_M_cut_139, d_M_cut_140, d_M_cut_141, fl_M_45, d_M_cut_144, d_M_cut_146, d_M_cut_147, d_M_cut_150, d_M_cut_152, d_M_cut_153, d_M_cut_154, d_M_cut_155, fl_M_48, d_M_cut_158, d_M_cut_160, d_M_cut_161, d_M_cut_164, d_M_cut_166, d_M_cut_167, d_M_cut_168, d_M_cut_169, fl_M_51, d_M_cut_172, d_M_cut_174, d_M_cut_175, d_M_cut_178, d_M_cut_180, d_M_cut_181, d_M_cut_182, d_M_cut_183, fl_M_54, d_M_cut_186, d_M_cut_188, d_M_cut_189, d_M_cut_192, d_M_cut_194, d_M_cut_195, d_M_cut_196, ci_1, d_M_cut_199, zt_199_m154, zo_199_m154, d_M_cut_202, d_M_cut_203, za_0, za_i, za_r, za_n, za_l, zu_s, zu_u, Nat.reduceAdd, Nat.reduceLT, Nat.reduceBEq, Nat.zero_add, Bool.false_or, Bool.or_false, Bool.true_or, Bool.or_true, Bool.false_and, Bool.and_false, Bool.true_and, Bool.and_true, true_and, and_true, true_or, or_true, eq_self, Nat.le_refl, List.getElem?_cons_succ, List.getElem?_cons_zero, List.set_cons_succ, List.set_cons_zero, zk_0, zk_1, zk_2, zk_3, zk_4, zq_1, zq_2, Option.isSome_some, Option.getD_some, Option.toList_some, Option.toList_none, List.cons_append, List.nil_append, true_implies, false_implies, not_true_eq_false, not_false_eq_true, zn_10, Int32.reduceLT, Int32.reduceLE, implies_true, and_self]
    exact ⟨I, L, rg_0 hr, hq⟩
  have hdd : 0 ≤ nI d ∧ nI d < 8 := ⟨by have := nI_pos (n := d) (by omega); clear hR C hA; (simp only [Int32.lt_iff_toInt_lt, Int32.le_iff_toInt_le, ← Int32.toInt_inj, Int32.reduceToInt] at *; omega), nI_lt (b := 8) hd (by omega)⟩
  rw [zb_t hdd]
  have e1 : vp_in (nI d) 8 := vp_in_nI hd (by omega)
  have e2 : (nI d).toNatClampNeg = d := nI_clamp (by omega)
  have q20 := (hq.dv d hd).1
  rcases hA with ⟨ho, rfl, rfl, rfl⟩ | ⟨ho, hon1, er, eS, eN⟩ | ⟨ho, rfl, rfl, rfl, rfl⟩
  · refine zgo (cut := fun _ => false) 60 C lk_M hR ?_
    simp only [zs_iconst, zs_bipush, zs_sipush, zs_iload_n, zs_iload, zs_aload_n, zs_istore_n, zs_istore, zs_iadd, zs_imul, zs_if_eq, zs_icmp_ne, zs_icmp_ge, zs_goto, zs_iinc, zs_get, zs_iaload, zs_iastore, zs_laload, zs_lastore, zs_baload, zs_bastore, zs_ireturn, zx_iv, zx_is, zx_it, zx_nw, zx_na, zx_an, zx_cc, zx_gs, zx_as, zx_ae, zx_ac, zx_at, zr_seg, zr_t, zr_f, zr_tp, zr_fp, zr_lg, zr_lr, zr_lr0, zr_wi, zr_wr, zr_wn, zr_wl, zr_vo, zr_so, zr_sI, zr_sL, zr_sA, zr_sN, zr_in, zr_rd, zr_wr2, zr_kf, zr_k0, zr_k1, zr_k2, zr_k3, zr_k3n, zr_k10, zr_k11, zr_k12, zr_k13, zr_k13n, zr_ai, zr_af, zr_aw, zr_aL, zr_Lf, zr_Lw, zr_l2, zr_l20, zr_al, zr_an, zr_aq, zr_ag, zr_rfs, zr_rfn, zr_r1, zr_r2, zr_w0, zr_w1, zr_tl, zr_40, zr_41, zr_42, zr_43, d_M_cut_0, d_M_cut_1, d_M_cut_4, zt_4_13, zo_4_13, d_M_cut_7, d_M_cut_8, fl_M_66, d_M_cut_11, d_M_cut_12, d_M_cut_13, d_M_cut_14, zt_14_5, zo_14_5, d_M_cut_17, ci_0, d_M_cut_18, d_M_cut_19, d_M_cut_20, d_M_cut_23, d_M_cut_24, d_M_cut_25, d_M_cut_26, d_M_cut_27, fl_M_75, d_M_cut_30, d_M_cut_31, d_M_cut_32, d_M_cut_33, d_M_cut_34, fl_M_69, d_M_cut_37, d_M_cut_38, d_M_cut_39, fl_M_102, d_M_cut_42, d_M_cut_43, d_M_cut_44, d_M_cut_45, d_M_cut_46, cb_61, d_M_cut_48, zt_48_154, zo_48_154, d_M_cut_51, d_M_cut_52, zt_52_150, zo_52_150, d_M_cut_55, d_M_cut_57, d_M_cut_58, d_M_cut_59, d_M_cut_60, d_M_cut_61, d_M_cut_63, cs_488, d_M_cut_66, d_M_cut_67, d_M_cut_68, d_M_cut_70, d_M_cut_71, fl_M_30, d_M_cut_74, d_M_cut_76, d_M_cut_77, d_M_cut_80, d_M_cut_82, d_M_cut_83, d_M_cut_84, d_M_cut_85, fl_M_33, d_M_cut_88, d_M_cut_90, d_M_cut_91, d_M_cut_94, d_M_cut_96, d_M_cut_97, d_M_cut_98, d_M_cut_99, fl_M_36, d_M_cut_102, d_M_cut_104, d_M_cut_105, d_M_cut_108, d_M_cut_110, d_M_cut_111, d_M_cut_112, d_M_cut_113, fl_M_39, d_M_cut_116, d_M_cut_118, d_M_cut_119, d_M_cut_122, d_M_cut_124, d_M_cut_125, d_M_cut_126, d_M_cut_127, fl_M_42, d_M_cut_130, d_M_cut_132, d_M_cut_133, d_M_cut_136, d_M_cut_138, d_M_cut_139, d_M_cut_140, d_M_cut_141, fl_M_45, d_M_cut_144, d_M_cut_146, d_M_cut_147, d_M_cut_150, d_M_cut_152, d_M_cut_153, d_M_cut_154, d_M_cut_155, fl_M_48, d_M_cut_158, d_M_cut_160, d_M_cut_161, d_M_cut_164, d_M_cut_166, d_M_cut_167, d_M_cut_168, d_M_cut_169, fl_M_51, d_M_cut_172, d_M_cut_174, d_M_cut_175, d_M_cut_178, d_M_cut_180, d_M_cut_181, d_M_cut_182, d_M_cut_183, fl_M_54, d_M_cut_186, d_M_cut_188, d_M_cut_189, d_M_cut_192, d_M_cut_194, d_M_cut_195, d_M_cut_196, ci_1, d_M_cut_199, zt_199_m154, zo_199_m154, d_M_cut_202, d_M_cut_203, za_0, za_i, za_r, za_n, za_l, zu_s, zu_u, Nat.reduceAdd, Nat.reduceLT, Nat.reduceBEq, Nat.zero_add, Bool.false_or, Bool.or_false, Bool.true_or, Bool.or_true, Bool.false_and, Bool.and_false, Bool.true_and, Bool.and_true, true_and, and_true, true_or, or_true, eq_self, Nat.le_refl, List.getElem?_cons_succ, List.getElem?_cons_zero, List.set_cons_succ, List.set_cons_zero, zk_0, zk_1, zk_2, zk_3, zk_4, zq_1, zq_2, Option.isSome_some, Option.getD_some, Option.toList_some, Option.toList_none, List.cons_append, List.nil_append, h0, h20, e1, e2, q20, ho, true_implies, false_implies, not_true_eq_false, not_false_eq_true, zn_10, Int32.reduceLT, Int32.reduceLE, implies_true, and_self]
    exact ⟨I, L, rg_0 hr, hq⟩
  · obtain ⟨rfl⟩ : on = 1 := hon.elim (fun u => absurd u hon1) id
    have ho0 : S 4 d 0 = 0 := (h01 d hd).elim id (fun u => absurd u ho)
    have e61 : ∀ i, i < 61 → (61 : Int32) * nI d + nI i = nI (61 * d + i) := fun i _ => at_e d i
    obtain ⟨I3, eI3⟩ : ∃ I3, I3 = zI (zI (zI I 20 (upd (I 20) d 1)) 23 (upd (I 23) d 0)) 21 (upd (I 21) d (nI (N 0 0))) := ⟨_, rfl⟩
    have loop : ∀ (k i : Nat) (M1 : zVw) (I1 : Nat → Nat → Int32) (L1 : Nat → Nat → Int64), 61 - i ≤ k → i ≤ 61 → zRg M M1 rl dA B I1 L1 → zCpd I3 L I1 L1 d i → zJ p l e (zR 1 20 0 0) s m args below meth c (MQ below (zQ D dA z (fun v M' => v = some (.int r) ∧ ∃ I' L', zRg M M' rl dA B I' L' ∧ zRel S' N' T I' L')) args s 0 0 (fun q => z ≤ q)) 6 z D 45 [(3, .int (nI i)), (0, .ref (B 0)), (1, .int (nI d)), (2, .int 1)] [] M1 0 0 := by
      have fin : ∀ (M1 : zVw) (I1 : Nat → Nat → Int32) (L1 : Nat → Nat → Int64), zRg M M1 rl dA B I1 L1 → zCpd I3 L I1 L1 d 61 → zJ p l e (zR 1 20 0 0) s m args below meth c (MQ below (zQ D dA z (fun v M' => v = some (.int r) ∧ ∃ I' L', zRg M M' rl dA B I' L' ∧ zRel S' N' T I' L')) args s 0 0 (fun q => z ≤ q)) 6 z D 45 [(3, .int (nI 61)), (0, .ref (B 0)), (1, .int (nI d)), (2, .int 1)] [] M1 0 0 := by
        intro M1 I1 L1 g1 g2
        have e3 : (61 : Int32) ≤ nI 61 := by decide
        refine zgo (cut := fun _ => false) 60 C lk_M hR ?_
        simp only [zs_iconst, zs_bipush, zs_sipush, zs_iload_n, zs_iload, zs_aload_n, zs_istore_n, zs_istore, zs_iadd, zs_imul, zs_if_eq, zs_icmp_ne, zs_icmp_ge, zs_goto, zs_iinc, zs_get, zs_iaload, zs_iastore, zs_laload, zs_lastore, zs_baload, zs_bastore, zs_ireturn, zx_iv, zx_is, zx_it, zx_nw, zx_na, zx_an, zx_cc, zx_gs, zx_as, zx_ae, zx_ac, zx_at, zr_seg, zr_t, zr_f, zr_tp, zr_fp, zr_lg, zr_lr, zr_lr0, zr_wi, zr_wr, zr_wn, zr_wl, zr_vo, zr_so, zr_sI, zr_sL, zr_sA, zr_sN, zr_in, zr_rd, zr_wr2, zr_kf, zr_k0, zr_k1, zr_k2, zr_k3, zr_k3n, zr_k10, zr_k11, zr_k12, zr_k13, zr_k13n, zr_ai, zr_af, zr_aw, zr_aL, zr_Lf, zr_Lw, zr_l2, zr_l20, zr_al, zr_an, zr_aq, zr_ag, zr_rfs, zr_rfn, zr_r1, zr_r2, zr_w0, zr_w1, zr_tl, zr_40, zr_41, zr_42, zr_43, d_M_cut_0, d_M_cut_1, d_M_cut_4, zt_4_13, zo_4_13, d_M_cut_7, d_M_cut_8, fl_M_66, d_M_cut_11, d_M_cut_12, d_M_cut_13, d_M_cut_14, zt_14_5, zo_14_5, d_M_cut_17, ci_0, d_M_cut_18, d_M_cut_19, d_M_cut_20, d_M_cut_23, d_M_cut_24, d_M_cut_25, d_M_cut_26, d_M_cut_27, fl_M_75, d_M_cut_30, d_M_cut_31, d_M_cut_32, d_M_cut_33, d_M_cut_34, fl_M_69, d_M_cut_37, d_M_cut_38, d_M_cut_39, fl_M_102, d_M_cut_42, d_M_cut_43, d_M_cut_44, d_M_cut_45, d_M_cut_46, cb_61, d_M_cut_48, zt_48_154, zo_48_154, d_M_cut_51, d_M_cut_52, zt_52_150, zo_52_150, d_M_cut_55, d_M_cut_57, d_M_cut_58, d_M_cut_59, d_M_cut_60, d_M_cut_61, d_M_cut_63, cs_488, d_M_cut_66, d_M_cut_67, d_M_cut_68, d_M_cut_70, d_M_cut_71, fl_M_30, d_M_cut_74, d_M_cut_76, d_M_cut_77, d_M_cut_80, d_M_cut_82, d_M_cut_83, d_M_cut_84, d_M_cut_85, fl_M_33, d_M_cut_88, d_M_cut_90, d_M_cut_91, d_M_cut_94, d_M_cut_96, d_M_cut_97, d_M_cut_98, d_M_cut_99, fl_M_36, d_M_cut_102, d_M_cut_104, d_M_cut_105, d_M_cut_108, d_M_cut_110, d_M_cut_111, d_M_cut_112, d_M_cut_113, fl_M_39, d_M_cut_116, d_M_cut_118, d_M_cut_119, d_M_cut_122, d_M_cut_124, d_M_cut_125, d_M_cut_126, d_M_cut_127, fl_M_42, d_M_cut_130, d_M_cut_132, d_M_cut_133, d_M_cut_136, d_M_cut_138, d_M_cut_139, d_M_cut_140, d_M_cut_141, fl_M_45, d_M_cut_144, d_M_cut_146, d_M_cut_147, d_M_cut_150, d_M_cut_152, d_M_cut_153, d_M_cut_154, d_M_cut_155, fl_M_48, d_M_cut_158, d_M_cut_160, d_M_cut_161, d_M_cut_164, d_M_cut_166, d_M_cut_167, d_M_cut_168, d_M_cut_169, fl_M_51, d_M_cut_172, d_M_cut_174, d_M_cut_175, d_M_cut_178, d_M_cut_180, d_M_cut_181, d_M_cut_182, d_M_cut_183, fl_M_54, d_M_cut_186, d_M_cut_188, d_M_cut_189, d_M_cut_192, d_M_cut_194, d_M_cut_195, d_M_cut_196, ci_1, d_M_cut_199, zt_199_m154, zo_199_m154, d_M_cut_202, d_M_cut_203, za_0, za_i, za_r, za_n, za_l, zu_s, zu_u, Nat.reduceAdd, Nat.reduceLT, Nat.reduceBEq, Nat.zero_add, Bool.false_or, Bool.or_false, Bool.true_or, Bool.or_true, Bool.false_and, Bool.and_false, Bool.true_and, Bool.and_true, true_and, and_true, true_or, or_true, eq_self, Nat.le_refl, List.getElem?_cons_succ, List.getElem?_cons_zero, List.set_cons_succ, List.set_cons_zero, zk_0, zk_1, zk_2, zk_3, zk_4, zq_1, zq_2, Option.isSome_some, Option.getD_some, Option.toList_some, Option.toList_none, List.cons_append, List.nil_append, e3, true_implies, false_implies, not_true_eq_false, not_false_eq_true, zn_10, Int32.reduceLT, Int32.reduceLE, implies_true, and_self]
        rw [eI3] at g2
        exact ⟨by rw [er], I1, L1, g1, by rw [eS, eN]; exact rel_cut hq hb hd ho0 g2⟩
      intro k
      induction k with
      | zero =>
        intro i M1 I1 L1 k1 k2 g1 g2
        have hi : i = 61 := by omega
        subst hi
        exact fin M1 I1 L1 g1 g2
      | succ k ih =>
        intro i M1 I1 L1 k1 k2 g1 g2
        by_cases hi : i = 61
        · subst hi
          exact fin M1 I1 L1 g1 g2
        · have hlt : i < 61 := by omega
          have z1 : 61 - (i + 1) ≤ k := by omega
          have z2 : i + 1 ≤ 61 := by omega
          have e3 : ¬ (61 : Int32) ≤ nI i := nI_ge (b := 61) hlt (by omega)
          have e4 : vp_in (nI (61 * d + i)) 549 := vp_in_nI (by omega) (by omega)
          have e5 : (nI (61 * d + i)).toNatClampNeg = 61 * d + i := nI_clamp (by omega)
          have e6 : vp_in (nI (488 + i)) 549 := vp_in_nI (by omega) (by omega)
          have e7 : (nI (488 + i)).toNatClampNeg = 488 + i := nI_clamp (by omega)
          have k0 := rf_0 g1.1
          have k7 := rf_7 g1.1
          have k8 := rf_8 g1.1
          have k9 := rf_9 g1.1
          have k10 := rf_10 g1.1
          have k11 := rf_11 g1.1
          have k12 := rf_12 g1.1
          have k13 := rf_13 g1.1
          have k14 := rf_14 g1.1
          have k15 := rf_15 g1.1
          have kb := rfb_15 g1.1 (488 + i)
          have m_0_7 := rf_ne g1.1 (i := 0) (j := 7) (by decide) (by decide) (by decide)
          have m_0_8 := rf_ne g1.1 (i := 0) (j := 8) (by decide) (by decide) (by decide)
          have m_0_9 := rf_ne g1.1 (i := 0) (j := 9) (by decide) (by decide) (by decide)
          have m_0_10 := rf_ne g1.1 (i := 0) (j := 10) (by decide) (by decide) (by decide)
          have m_0_11 := rf_ne g1.1 (i := 0) (j := 11) (by decide) (by decide) (by decide)
          have m_0_12 := rf_ne g1.1 (i := 0) (j := 12) (by decide) (by decide) (by decide)
          have m_0_13 := rf_ne g1.1 (i := 0) (j := 13) (by decide) (by decide) (by decide)
          have m_0_14 := rf_ne g1.1 (i := 0) (j := 14) (by decide) (by decide) (by decide)
          have m_0_15 := rf_ne g1.1 (i := 0) (j := 15) (by decide) (by decide) (by decide)
          have m_7_8 := rf_ne g1.1 (i := 7) (j := 8) (by decide) (by decide) (by decide)
          have m_7_9 := rf_ne g1.1 (i := 7) (j := 9) (by decide) (by decide) (by decide)
          have m_7_10 := rf_ne g1.1 (i := 7) (j := 10) (by decide) (by decide) (by decide)
          have m_7_11 := rf_ne g1.1 (i := 7) (j := 11) (by decide) (by decide) (by decide)
          have m_7_12 := rf_ne g1.1 (i := 7) (j := 12) (by decide) (by decide) (by decide)
          have m_7_13 := rf_ne g1.1 (i := 7) (j := 13) (by decide) (by decide) (by decide)
          have m_7_14 := rf_ne g1.1 (i := 7) (j := 14) (by decide) (by decide) (by decide)
          have m_7_15 := rf_ne g1.1 (i := 7) (j := 15) (by decide) (by decide) (by decide)
          have m_8_7 := rf_ne g1.1 (i := 8) (j := 7) (by decide) (by decide) (by decide)
          have m_8_9 := rf_ne g1.1 (i := 8) (j := 9) (by decide) (by decide) (by decide)
          have m_8_10 := rf_ne g1.1 (i := 8) (j := 10) (by decide) (by decide) (by decide)
          have m_8_11 := rf_ne g1.1 (i := 8) (j := 11) (by decide) (by decide) (by decide)
          have m_8_12 := rf_ne g1.1 (i := 8) (j := 12) (by decide) (by decide) (by decide)
          have m_8_13 := rf_ne g1.1 (i := 8) (j := 13) (by decide) (by decide) (by decide)
          have m_8_14 := rf_ne g1.1 (i := 8) (j := 14) (by decide) (by decide) (by decide)
          have m_8_15 := rf_ne g1.1 (i := 8) (j := 15) (by decide) (by decide) (by decide)
          have m_9_7 := rf_ne g1.1 (i := 9) (j := 7) (by decide) (by decide) (by decide)
          have m_9_8 := rf_ne g1.1 (i := 9) (j := 8) (by decide) (by decide) (by decide)
          have m_9_10 := rf_ne g1.1 (i := 9) (j := 10) (by decide) (by decide) (by decide)
          have m_9_11 := rf_ne g1.1 (i := 9) (j := 11) (by decide) (by decide) (by decide)
          have m_9_12 := rf_ne g1.1 (i := 9) (j := 12) (by decide) (by decide) (by decide)
          have m_9_13 := rf_ne g1.1 (i := 9) (j := 13) (by decide) (by decide) (by decide)
          have m_9_14 := rf_ne g1.1 (i := 9) (j := 14) (by decide) (by decide) (by decide)
          have m_9_15 := rf_ne g1.1 (i := 9) (j := 15) (by decide) (by decide) (by decide)
          have m_10_7 := rf_ne g1.1 (i := 10) (j := 7) (by decide) (by decide) (by decide)
          have m_10_8 := rf_ne g1.1 (i := 10) (j := 8) (by decide) (by decide) (by decide)
          have m_10_9 := rf_ne g1.1 (i := 10) (j := 9) (by decide) (by decide) (by decide)
          have m_10_11 := rf_ne g1.1 (i := 10) (j := 11) (by decide) (by decide) (by decide)
          have m_10_12 := rf_ne g1.1 (i := 10) (j := 12) (by decide) (by decide) (by decide)
          have m_10_13 := rf_ne g1.1 (i := 10) (j := 13) (by decide) (by decide) (by decide)
          have m_10_14 := rf_ne g1.1 (i := 10) (j := 14) (by decide) (by decide) (by decide)
          have m_10_15 := rf_ne g1.1 (i := 10) (j := 15) (by decide) (by decide) (by decide)
          have m_11_7 := rf_ne g1.1 (i := 11) (j := 7) (by decide) (by decide) (by decide)
          have m_11_8 := rf_ne g1.1 (i := 11) (j := 8) (by decide) (by decide) (by decide)
          have m_11_9 := rf_ne g1.1 (i := 11) (j := 9) (by decide) (by decide) (by decide)
          have m_11_10 := rf_ne g1.1 (i := 11) (j := 10) (by decide) (by decide) (by decide)
          have m_11_12 := rf_ne g1.1 (i := 11) (j := 12) (by decide) (by decide) (by decide)
          have m_11_13 := rf_ne g1.1 (i := 11) (j := 13) (by decide) (by decide) (by decide)
          have m_11_14 := rf_ne g1.1 (i := 11) (j := 14) (by decide) (by decide) (by decide)
          have m_11_15 := rf_ne g1.1 (i := 11) (j := 15) (by decide) (by decide) (by decide)
          have m_12_7 := rf_ne g1.1 (i := 12) (j := 7) (by decide) (by decide) (by decide)
          have m_12_8 := rf_ne g1.1 (i := 12) (j := 8) (by decide) (by decide) (by decide)
          have m_12_9 := rf_ne g1.1 (i := 12) (j := 9) (by decide) (by decide) (by decide)
          have m_12_10 := rf_ne g1.1 (i := 12) (j := 10) (by decide) (by decide) (by decide)
          have m_12_11 := rf_ne g1.1 (i := 12) (j := 11) (by decide) (by decide) (by decide)
          have m_12_13 := rf_ne g1.1 (i := 12) (j := 13) (by decide) (by decide) (by decide)
          have m_12_14 := rf_ne g1.1 (i := 12) (j := 14) (by decide) (by decide) (by decide)
          have m_12_15 := rf_ne g1.1 (i := 12) (j := 15) (by decide) (by decide) (by decide)
          have m_13_7 := rf_ne g1.1 (i := 13) (j := 7) (by decide) (by decide) (by decide)
          have m_13_8 := rf_ne g1.1 (i := 13) (j := 8) (by decide) (by decide) (by decide)
          have m_13_9 := rf_ne g1.1 (i := 13) (j := 9) (by decide) (by decide) (by decide)
          have m_13_10 := rf_ne g1.1 (i := 13) (j := 10) (by decide) (by decide) (by decide)
          have m_13_11 := rf_ne g1.1 (i := 13) (j := 11) (by decide) (by decide) (by decide)
          have m_13_12 := rf_ne g1.1 (i := 13) (j := 12) (by decide) (by decide) (by decide)
          have m_13_14 := rf_ne g1.1 (i := 13) (j := 14) (by decide) (by decide) (by decide)
          have m_13_15 := rf_ne g1.1 (i := 13) (j := 15) (by decide) (by decide) (by decide)
          have m_14_7 := rf_ne g1.1 (i := 14) (j := 7) (by decide) (by decide) (by decide)
          have m_14_8 := rf_ne g1.1 (i := 14) (j := 8) (by decide) (by decide) (by decide)
          have m_14_9 := rf_ne g1.1 (i := 14) (j := 9) (by decide) (by decide) (by decide)
          have m_14_10 := rf_ne g1.1 (i := 14) (j := 10) (by decide) (by decide) (by decide)
          have m_14_11 := rf_ne g1.1 (i := 14) (j := 11) (by decide) (by decide) (by decide)
          have m_14_12 := rf_ne g1.1 (i := 14) (j := 12) (by decide) (by decide) (by decide)
          have m_14_13 := rf_ne g1.1 (i := 14) (j := 13) (by decide) (by decide) (by decide)
          have m_14_15 := rf_ne g1.1 (i := 14) (j := 15) (by decide) (by decide) (by decide)
          have m_15_7 := rf_ne g1.1 (i := 15) (j := 7) (by decide) (by decide) (by decide)
          have m_15_8 := rf_ne g1.1 (i := 15) (j := 8) (by decide) (by decide) (by decide)
          have m_15_9 := rf_ne g1.1 (i := 15) (j := 9) (by decide) (by decide) (by decide)
          have m_15_10 := rf_ne g1.1 (i := 15) (j := 10) (by decide) (by decide) (by decide)
          have m_15_11 := rf_ne g1.1 (i := 15) (j := 11) (by decide) (by decide) (by decide)
          have m_15_12 := rf_ne g1.1 (i := 15) (j := 12) (by decide) (by decide) (by decide)
          have m_15_13 := rf_ne g1.1 (i := 15) (j := 13) (by decide) (by decide) (by decide)
          have m_15_14 := rf_ne g1.1 (i := 15) (j := 14) (by decide) (by decide) (by decide)
          have sub : ∀ (a b c1 d1 e1 f1 : Nat × Value), ∀ q ∈ [a, d1, e1, f1], q ∈ [a, b, c1, d1, e1, f1] := fun a b c1 d1 e1 f1 q hq => by
            simp only [List.mem_cons, List.not_mem_nil, or_false] at hq ⊢
            rcases hq with h | h | h | h <;> simp [h]
          refine zgo (cut := fun q => q == 45) 120 C lk_M hR ?_
          simp only [zs_iconst, zs_bipush, zs_sipush, zs_iload_n, zs_iload, zs_aload_n, zs_istore_n, zs_istore, zs_iadd, zs_imul, zs_if_eq, zs_icmp_ne, zs_icmp_ge, zs_goto, zs_iinc, zs_get, zs_iaload, zs_iastore, zs_laload, zs_lastore, zs_baload, zs_bastore, zs_ireturn, zx_iv, zx_is, zx_it, zx_nw, zx_na, zx_an, zx_cc, zx_gs, zx_as, zx_ae, zx_ac, zx_at, zr_seg, zr_t, zr_f, zr_tp, zr_fp, zr_lg, zr_lr, zr_lr0, zr_wi, zr_wr, zr_wn, zr_wl, zr_vo, zr_so, zr_sI, zr_sL, zr_sA, zr_sN, zr_in, zr_rd, zr_wr2, zr_kf, zr_k0, zr_k1, zr_k2, zr_k3, zr_k3n, zr_k10, zr_k11, zr_k12, zr_k13, zr_k13n, zr_ai, zr_af, zr_aw, zr_aL, zr_Lf, zr_Lw, zr_l2, zr_l20, zr_al, zr_an, zr_aq, zr_ag, zr_rfs, zr_rfn, zr_r1, zr_r2, zr_w0, zr_w1, zr_tl, zr_40, zr_41, zr_42, zr_43, d_M_cut_0, d_M_cut_1, d_M_cut_4, zt_4_13, zo_4_13, d_M_cut_7, d_M_cut_8, fl_M_66, d_M_cut_11, d_M_cut_12, d_M_cut_13, d_M_cut_14, zt_14_5, zo_14_5, d_M_cut_17, ci_0, d_M_cut_18, d_M_cut_19, d_M_cut_20, d_M_cut_23, d_M_cut_24, d_M_cut_25, d_M_cut_26, d_M_cut_27, fl_M_75, d_M_cut_30, d_M_cut_31, d_M_cut_32, d_M_cut_33, d_M_cut_34, fl_M_69, d_M_cut_37, d_M_cut_38, d_M_cut_39, fl_M_102, d_M_cut_42, d_M_cut_43, d_M_cut_44, d_M_cut_45, d_M_cut_46, cb_61, d_M_cut_48, zt_48_154, zo_48_154, d_M_cut_51, d_M_cut_52, zt_52_150, zo_52_150, d_M_cut_55, d_M_cut_57, d_M_cut_58, d_M_cut_59, d_M_cut_60, d_M_cut_61, d_M_cut_63, cs_488, d_M_cut_66, d_M_cut_67, d_M_cut_68, d_M_cut_70, d_M_cut_71, fl_M_30, d_M_cut_74, d_M_cut_76, d_M_cut_77, d_M_cut_80, d_M_cut_82, d_M_cut_83, d_M_cut_84, d_M_cut_85, fl_M_33, d_M_cut_88, d_M_cut_90, d_M_cut_91, d_M_cut_94, d_M_cut_96, d_M_cut_97, d_M_cut_98, d_M_cut_99, fl_M_36, d_M_cut_102, d_M_cut_104, d_M_cut_105, d_M_cut_108, d_M_cut_110, d_M_cut_111, d_M_cut_112, d_M_cut_113, fl_M_39, d_M_cut_116, d_M_cut_118, d_M_cut_119, d_M_cut_122, d_M_cut_124, d_M_cut_125, d_M_cut_126, d_M_cut_127, fl_M_42, d_M_cut_130, d_M_cut_132, d_M_cut_133, d_M_cut_136, d_M_cut_138, d_M_cut_139, d_M_cut_140, d_M_cut_141, fl_M_45, d_M_cut_144, d_M_cut_146, d_M_cut_147, d_M_cut_150, d_M_cut_152, d_M_cut_153, d_M_cut_154, d_M_cut_155, fl_M_48, d_M_cut_158, d_M_cut_160, d_M_cut_161, d_M_cut_164, d_M_cut_166, d_M_cut_167, d_M_cut_168, d_M_cut_169, fl_M_51, d_M_cut_172, d_M_cut_174, d_M_cut_175, d_M_cut_178, d_M_cut_180, d_M_cut_181, d_M_cut_182, d_M_cut_183, fl_M_54, d_M_cut_186, d_M_cut_188, d_M_cut_189, d_M_cut_192, d_M_cut_194, d_M_cut_195, d_M_cut_196, ci_1, d_M_cut_199, zt_199_m154, zo_199_m154, d_M_cut_202, d_M_cut_203, za_0, za_i, za_r, za_n, za_l, zu_s, zu_u, Nat.reduceAdd, Nat.reduceLT, Nat.reduceBEq, Nat.zero_add, Bool.false_or, Bool.or_false, Bool.true_or, Bool.or_true, Bool.false_and, Bool.and_false, Bool.true_and, Bool.and_true, true_and, and_true, true_or, or_true, eq_self, Nat.le_refl, List.getElem?_cons_succ, List.getElem?_cons_zero, List.set_cons_succ, List.set_cons_zero, zk_0, zk_1, zk_2, zk_3, zk_4, zq_1, zq_2, Option.isSome_some, Option.getD_some, Option.toList_some, Option.toList_none, List.cons_append, List.nil_append, k0, k7, k8, k9, k10, k11, k12, k13, k14, k15, zu_n m_0_7, zu_n m_0_8, zu_n m_0_9, zu_n m_0_10, zu_n m_0_11, zu_n m_0_12, zu_n m_0_13, zu_n m_0_14, zu_n m_0_15, zu_n m_7_8, zu_n m_7_9, zu_n m_7_10, zu_n m_7_11, zu_n m_7_12, zu_n m_7_13, zu_n m_7_14, zu_n m_7_15, zu_n m_8_7, zu_n m_8_9, zu_n m_8_10, zu_n m_8_11, zu_n m_8_12, zu_n m_8_13, zu_n m_8_14, zu_n m_8_15, zu_n m_9_7, zu_n m_9_8, zu_n m_9_10, zu_n m_9_11, zu_n m_9_12, zu_n m_9_13, zu_n m_9_14, zu_n m_9_15, zu_n m_10_7, zu_n m_10_8, zu_n m_10_9, zu_n m_10_11, zu_n m_10_12, zu_n m_10_13, zu_n m_10_14, zu_n m_10_15, zu_n m_11_7, zu_n m_11_8, zu_n m_11_9, zu_n m_11_10, zu_n m_11_12, zu_n m_11_13, zu_n m_11_14, zu_n m_11_15, zu_n m_12_7, zu_n m_12_8, zu_n m_12_9, zu_n m_12_10, zu_n m_12_11, zu_n m_12_13, zu_n m_12_14, zu_n m_12_15, zu_n m_13_7, zu_n m_13_8, zu_n m_13_9, zu_n m_13_10, zu_n m_13_11, zu_n m_13_12, zu_n m_13_14, zu_n m_13_15, zu_n m_14_7, zu_n m_14_8, zu_n m_14_9, zu_n m_14_10, zu_n m_14_11, zu_n m_14_12, zu_n m_14_13, zu_n m_14_15, zu_n m_15_7, zu_n m_15_8, zu_n m_15_9, zu_n m_15_10, zu_n m_15_11, zu_n m_15_12, zu_n m_15_13, zu_n m_15_14, e3, e4, e5, e6, e7, at_e, at_8, kb, nI_1, true_implies, false_implies, not_true_eq_false, not_false_eq_true, zn_10, Int32.reduceLT, Int32.reduceLE, implies_true, and_self]
          obtain ⟨c7, c8, c11, c12, c14, c15, y9, y10, y13, o0, o1, o2, o4, o5, o6, o17, o18, o19, o20, o21, o23, o24, o25, o26, o27, o30, o31, o32, x0, x3, x22, x28⟩ := g2
          exact zJ_loc (sub _ _ _ _ _ _) (ih (i + 1) _ _ _ z1 z2 (rg_z 15 (rg_i 14 (rg_l 13 (rg_i 12 (rg_i 11 (rg_l 10 (rg_l 9 (rg_i 8 (rg_i 7 g1 rfl) rfl) rfl) rfl) rfl) rfl) rfl) rfl) rfl (upd_b (rfb_15 g1.1) kb)) ⟨by show upd (I1 7) (61 * d + i) (I1 7 (488 + i)) = _; rw [c7]; exact cpy_s hd hlt, by show upd (I1 8) (61 * d + i) (I1 8 (488 + i)) = _; rw [c8]; exact cpy_s hd hlt, by show upd (I1 11) (61 * d + i) (I1 11 (488 + i)) = _; rw [c11]; exact cpy_s hd hlt, by show upd (I1 12) (61 * d + i) (I1 12 (488 + i)) = _; rw [c12]; exact cpy_s hd hlt, by show upd (I1 14) (61 * d + i) (I1 14 (488 + i)) = _; rw [c14]; exact cpy_s hd hlt, by show upd (I1 15) (61 * d + i) (I1 15 (488 + i)) = _; rw [c15]; exact cpy_s hd hlt, by show vp_updL (L1 9) (61 * d + i) (L1 9 (488 + i)) = _; rw [y9]; exact cpy_sL hd hlt, by show vp_updL (L1 10) (61 * d + i) (L1 10 (488 + i)) = _; rw [y10]; exact cpy_sL hd hlt, by show vp_updL (L1 13) (61 * d + i) (L1 13 (488 + i)) = _; rw [y13]; exact cpy_sL hd hlt, o0, o1, o2, o4, o5, o6, o17, o18, o19, o20, o21, o23, o24, o25, o26, o27, o30, o31, o32, x0, x3, x22, x28⟩)
    refine zgo (cut := fun q => q == 45) 60 C lk_M hR ?_
    simp only [zs_iconst, zs_bipush, zs_sipush, zs_iload_n, zs_iload, zs_aload_n, zs_istore_n, zs_istore, zs_iadd, zs_imul, zs_if_eq, zs_icmp_ne, zs_icmp_ge, zs_goto, zs_iinc, zs_get, zs_iaload, zs_iastore, zs_laload, zs_lastore, zs_baload, zs_bastore, zs_ireturn, zx_iv, zx_is, zx_it, zx_nw, zx_na, zx_an, zx_cc, zx_gs, zx_as, zx_ae, zx_ac, zx_at, zr_seg, zr_t, zr_f, zr_tp, zr_fp, zr_lg, zr_lr, zr_lr0, zr_wi, zr_wr, zr_wn, zr_wl, zr_vo, zr_so, zr_sI, zr_sL, zr_sA, zr_sN, zr_in, zr_rd, zr_wr2, zr_kf, zr_k0, zr_k1, zr_k2, zr_k3, zr_k3n, zr_k10, zr_k11, zr_k12, zr_k13, zr_k13n, zr_ai, zr_af, zr_aw, zr_aL, zr_Lf, zr_Lw, zr_l2, zr_l20, zr_al, zr_an, zr_aq, zr_ag, zr_rfs, zr_rfn, zr_r1, zr_r2, zr_w0, zr_w1, zr_tl, zr_40, zr_41, zr_42, zr_43, d_M_cut_0, d_M_cut_1, d_M_cut_4, zt_4_13, zo_4_13, d_M_cut_7, d_M_cut_8, fl_M_66, d_M_cut_11, d_M_cut_12, d_M_cut_13, d_M_cut_14, zt_14_5, zo_14_5, d_M_cut_17, ci_0, d_M_cut_18, d_M_cut_19, d_M_cut_20, d_M_cut_23, d_M_cut_24, d_M_cut_25, d_M_cut_26, d_M_cut_27, fl_M_75, d_M_cut_30, d_M_cut_31, d_M_cut_32, d_M_cut_33, d_M_cut_34, fl_M_69, d_M_cut_37, d_M_cut_38, d_M_cut_39, fl_M_102, d_M_cut_42, d_M_cut_43, d_M_cut_44, d_M_cut_45, d_M_cut_46, cb_61, d_M_cut_48, zt_48_154, zo_48_154, d_M_cut_51, d_M_cut_52, zt_52_150, zo_52_150, d_M_cut_55, d_M_cut_57, d_M_cut_58, d_M_cut_59, d_M_cut_60, d_M_cut_61, d_M_cut_63, cs_488, d_M_cut_66, d_M_cut_67, d_M_cut_68, d_M_cut_70, d_M_cut_71, fl_M_30, d_M_cut_74, d_M_cut_76, d_M_cut_77, d_M_cut_80, d_M_cut_82, d_M_cut_83, d_M_cut_84, d_M_cut_85, fl_M_33, d_M_cut_88, d_M_cut_90, d_M_cut_91, d_M_cut_94, d_M_cut_96, d_M_cut_97, d_M_cut_98, d_M_cut_99, fl_M_36, d_M_cut_102, d_M_cut_104, d_M_cut_105, d_M_cut_108, d_M_cut_110, d_M_cut_111, d_M_cut_112, d_M_cut_113, fl_M_39, d_M_cut_116, d_M_cut_118, d_M_cut_119, d_M_cut_122, d_M_cut_124, d_M_cut_125, d_M_cut_126, d_M_cut_127, fl_M_42, d_M_cut_130, d_M_cut_132, d_M_cut_133, d_M_cut_136, d_M_cut_138, d_M_cut_139, d_M_cut_140, d_M_cut_141, fl_M_45, d_M_cut_144, d_M_cut_146, d_M_cut_147, d_M_cut_150, d_M_cut_152, d_M_cut_153, d_M_cut_154, d_M_cut_155, fl_M_48, d_M_cut_158, d_M_cut_160, d_M_cut_161, d_M_cut_164, d_M_cut_166, d_M_cut_167, d_M_cut_168, d_M_cut_169, fl_M_51, d_M_cut_172, d_M_cut_174, d_M_cut_175, d_M_cut_178, d_M_cut_180, d_M_cut_181, d_M_cut_182, d_M_cut_183, fl_M_54, d_M_cut_186, d_M_cut_188, d_M_cut_189, d_M_cut_192, d_M_cut_194, d_M_cut_195, d_M_cut_196, ci_1, d_M_cut_199, zt_199_m154, zo_199_m154, d_M_cut_202, d_M_cut_203, za_0, za_i, za_r, za_n, za_l, zu_s, zu_u, Nat.reduceAdd, Nat.reduceLT, Nat.reduceBEq, Nat.zero_add, Bool.false_or, Bool.or_false, Bool.true_or, Bool.or_true, Bool.false_and, Bool.and_false, Bool.true_and, Bool.and_true, true_and, and_true, true_or, or_true, eq_self, Nat.le_refl, List.getElem?_cons_succ, List.getElem?_cons_zero, List.set_cons_succ, List.set_cons_zero, zk_0, zk_1, zk_2, zk_3, zk_4, zq_1, zq_2, Option.isSome_some, Option.getD_some, Option.toList_some, Option.toList_none, List.cons_append, List.nil_append, h0, h20, h21, h23, zu_n n_0_20, zu_n n_0_21, zu_n n_0_23, zu_n n_20_21, zu_n n_20_23, zu_n n_21_20, zu_n n_21_23, zu_n n_23_20, zu_n n_23_21, e1, e2, q20, ho0, hic, true_implies, false_implies, not_true_eq_false, not_false_eq_true, zn_10, Int32.reduceLT, Int32.reduceLE, implies_true, and_self]
    refine ⟨fun _ => ?_, fun u => absurd u (by decide)⟩
    have := loop 61 0 _ _ _ (by omega) (by omega) (rg_i 21 (rg_i 23 (rg_z 20 (rg_0 hr) rfl (upd_b (rfb_20 hr) (Or.inr rfl))) rfl) rfl) (by rw [eI3]; exact ⟨(cpy_0 _ _).symm, (cpy_0 _ _).symm, (cpy_0 _ _).symm, (cpy_0 _ _).symm, (cpy_0 _ _).symm, (cpy_0 _ _).symm, (cpy_0 _ _).symm, (cpy_0 _ _).symm, (cpy_0 _ _).symm, rfl, rfl, rfl, rfl, rfl, rfl, rfl, rfl, rfl, rfl, rfl, rfl, rfl, rfl, rfl, rfl, rfl, rfl, rfl, rfl, rfl, rfl, rfl⟩)
    exact this
  · refine zgo (cut := fun _ => false) 60 C lk_M hR ?_
    simp only [zs_iconst, zs_bipush, zs_sipush, zs_iload_n, zs_iload, zs_aload_n, zs_istore_n, zs_istore, zs_iadd, zs_imul, zs_if_eq, zs_icmp_ne, zs_icmp_ge, zs_goto, zs_iinc, zs_get, zs_iaload, zs_iastore, zs_laload, zs_lastore, zs_baload, zs_bastore, zs_ireturn, zx_iv, zx_is, zx_it, zx_nw, zx_na, zx_an, zx_cc, zx_gs, zx_as, zx_ae, zx_ac, zx_at, zr_seg, zr_t, zr_f, zr_tp, zr_fp, zr_lg, zr_lr, zr_lr0, zr_wi, zr_wr, zr_wn, zr_wl, zr_vo, zr_so, zr_sI, zr_sL, zr_sA, zr_sN, zr_in, zr_rd, zr_wr2, zr_kf, zr_k0, zr_k1, zr_k2, zr_k3, zr_k3n, zr_k10, zr_k11, zr_k12, zr_k13, zr_k13n, zr_ai, zr_af, zr_aw, zr_aL, zr_Lf, zr_Lw, zr_l2, zr_l20, zr_al, zr_an, zr_aq, zr_ag, zr_rfs, zr_rfn, zr_r1, zr_r2, zr_w0, zr_w1, zr_tl, zr_40, zr_41, zr_42, zr_43, d_M_cut_0, d_M_cut_1, d_M_cut_4, zt_4_13, zo_4_13, d_M_cut_7, d_M_cut_8, fl_M_66, d_M_cut_11, d_M_cut_12, d_M_cut_13, d_M_cut_14, zt_14_5, zo_14_5, d_M_cut_17, ci_0, d_M_cut_18, d_M_cut_19, d_M_cut_20, d_M_cut_23, d_M_cut_24, d_M_cut_25, d_M_cut_26, d_M_cut_27, fl_M_75, d_M_cut_30, d_M_cut_31, d_M_cut_32, d_M_cut_33, d_M_cut_34, fl_M_69, d_M_cut_37, d_M_cut_38, d_M_cut_39, fl_M_102, d_M_cut_42, d_M_cut_43, d_M_cut_44, d_M_cut_45, d_M_cut_46, cb_61, d_M_cut_48, zt_48_154, zo_48_154, d_M_cut_51, d_M_cut_52, zt_52_150, zo_52_150, d_M_cut_55, d_M_cut_57, d_M_cut_58, d_M_cut_59, d_M_cut_60, d_M_cut_61, d_M_cut_63, cs_488, d_M_cut_66, d_M_cut_67, d_M_cut_68, d_M_cut_70, d_M_cut_71, fl_M_30, d_M_cut_74, d_M_cut_76, d_M_cut_77, d_M_cut_80, d_M_cut_82, d_M_cut_83, d_M_cut_84, d_M_cut_85, fl_M_33, d_M_cut_88, d_M_cut_90, d_M_cut_91, d_M_cut_94, d_M_cut_96, d_M_cut_97, d_M_cut_98, d_M_cut_99, fl_M_36, d_M_cut_102, d_M_cut_104, d_M_cut_105, d_M_cut_108, d_M_cut_110, d_M_cut_111, d_M_cut_112, d_M_cut_113, fl_M_39, d_M_cut_116, d_M_cut_118, d_M_cut_119, d_M_cut_122, d_M_cut_124, d_M_cut_125, d_M_cut_126, d_M_cut_127, fl_M_42, d_M_cut_130, d_M_cut_132, d_M_cut_133, d_M_cut_136, d_M_cut_138, d_M_cut_139, d_M_cut_140, d_M_cut_141, fl_M_45, d_M_cut_144, d_M_cut_146, d_M_cut_147, d_M_cut_150, d_M_cut_152, d_M_cut_153, d_M_cut_154, d_M_cut_155, fl_M_48, d_M_cut_158, d_M_cut_160, d_M_cut_161, d_M_cut_164, d_M_cut_166, d_M_cut_167, d_M_cut_168, d_M_cut_169, fl_M_51, d_M_cut_172, d_M_cut_174, d_M_cut_175, d_M_cut_178, d_M_cut_180, d_M_cut_181, d_M_cut_182, d_M_cut_183, fl_M_54, d_M_cut_186, d_M_cut_188, d_M_cut_189, d_M_cut_192, d_M_cut_194, d_M_cut_195, d_M_cut_196, ci_1, d_M_cut_199, zt_199_m154, zo_199_m154, d_M_cut_202, d_M_cut_203, za_0, za_i, za_r, za_n, za_l, zu_s, zu_u, Nat.reduceAdd, Nat.reduceLT, Nat.reduceBEq, Nat.zero_add, Bool.false_or, Bool.or_false, Bool.true_or, Bool.or_true, Bool.false_and, Bool.and_false, Bool.true_and, Bool.and_true, true_and, and_true, true_or, or_true, eq_self, Nat.le_refl, List.getElem?_cons_succ, List.getElem?_cons_zero, List.set_cons_succ, List.set_cons_zero, zk_0, zk_1, zk_2, zk_3, zk_4, zq_1, zq_2, Option.isSome_some, Option.getD_some, Option.toList_some, Option.toList_none, List.cons_append, List.nil_append, h0, h20, h21, h23, zu_n n_0_20, zu_n n_0_21, zu_n n_0_23, zu_n n_20_21, zu_n n_20_23, zu_n n_21_20, zu_n n_21_23, zu_n n_23_20, zu_n n_23_21, e1, e2, q20, ho, hic, true_implies, false_implies, not_true_eq_false, not_false_eq_true, zn_10, Int32.reduceLT, Int32.reduceLE, implies_true, and_self]
    exact ⟨_, _, rg_i 21 (rg_i 23 (rg_z 20 (rg_0 hr) rfl (upd_b (rfb_20 hr) (Or.inl rfl))) rfl) rfl, rel_on2 hq⟩
