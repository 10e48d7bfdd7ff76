/-! item: an object more. -/
theorem zAt_k2 {M M' : zVw} {rl rl' : Nat → Nat} {x r r1 r2 : Nat} {e : va_E} (hk : ∀ x, M x ≠ none → rl x ≠ r1 → rl x ≠ r2 → M' x = M x ∧ rl' x = rl x) (h : zAt M rl x r e) (n1 : r ≠ r1) (n2 : r ≠ r2) : zAt M' rl' x r e := by
  obtain ⟨a1, a2⟩ := hk x (by rw [h.1]; exact fun q => by cases q) (by rw [h.2]; exact n1) (by rw [h.2]; exact n2)
  exact ⟨by rw [a1]; exact h.1, by rw [a2]; exact h.2⟩
theorem zLr_k2 {M M' : zVw} {rl rl' : Nat → Nat} {dA : Nat → ClassId} {a ra ed re n r1 r2 : Nat} {ea : Nat → Nat} (hk : ∀ x, M x ≠ none → rl x ≠ r1 → rl x ≠ r2 → M' x = M x ∧ rl' x = rl x) (h : zLr M rl dA a ra ed re n ea) (n1 : ra ≠ r1) (n2 : ra ≠ r2) (n3 : re ≠ r1) (n4 : re ≠ r2) : zLr M' rl' dA a ra ed re n ea := by
  obtain ⟨cap, g, mo, ⟨q1, q2⟩, q3, q4, q5, q6⟩ := h
  obtain ⟨a1, a2⟩ := hk a (by rw [q1]; exact fun q => by cases q) (by rw [q4]; exact n1) (by rw [q4]; exact n2)
  rcases q2 with q2 | ⟨q7, q8, q9⟩
  · exact ⟨cap, g, mo, ⟨by rw [a1]; exact q1, Or.inl q2⟩, q3, by rw [a2]; exact q4, Or.inl q2.2.2, q6⟩
  · have q5' : rl ed = re := by
      rcases q5 with q5 | q5
      · omega
      · exact q5
    obtain ⟨b1, b2⟩ := hk ed (by rw [q7]; exact fun q => by cases q) (by rw [q5']; exact n3) (by rw [q5']; exact n4)
    exact ⟨cap, g, mo, ⟨by rw [a1]; exact q1, Or.inr ⟨by rw [b1]; exact q7, q8, q9⟩⟩, q3, by rw [a2]; exact q4, Or.inr (by rw [b2]; exact q5'), q6⟩
def zA (A : Nat → Nat → Nat) (t i x : Nat) : Nat → Nat → Nat := fun t' i' => if t' = t ∧ i' = i then x else A t' i'
theorem zA_e (A : Nat → Nat → Nat) (t i x : Nat) : zA A t i x t i = x := if_pos ⟨rfl, rfl⟩
theorem zA_n {A : Nat → Nat → Nat} {t i x i' : Nat} (h : i' ≠ i) : zA A t i x t i' = A t i' := if_neg (fun q => h q.2)
theorem zA_t {A : Nat → Nat → Nat} {t t' i i' x : Nat} (h : t' ≠ t) : zA A t i x t' i' = A t' i' := if_neg (fun q => h q.1)
/-- the fields of an item in S -/
def zIt (s r d : Int32) : Nat → Int32 := fun k => if k = 1 then s else if k = 2 then r else if k = 4 then d else 0
set_option maxHeartbeats 4000000 in
set_option maxRecDepth 100000 in
theorem rep_item {M M' : zVw} {rl : Nat → Nat} {dA : Nat → ClassId} {A : Nat → Nat → Nat} {S : Nat → Nat → Nat → Int32} {N : Nat → Nat → Nat} {T : Nat → Int64} {q1 q2 ed' cap' : Nat} {g' : Nat → Option Nat} {mo' s0 r0 d0 : Int32} (hr : zRep M rl dA A S N T) (hn : N 0 0 < 60) (f1 : M q1 = none) (f2 : M q2 = none) (f12 : q1 ≠ q2) (hL : zLs M' dA (A 0 1) ed' (N 0 0 + 1) cap' g' mo') (hM1 : M' q1 = some (iA (nI (N 0 0 + 1)) s0 r0 q2 d0)) (hM2 : M' q2 = some (fA f0)) (hed : (rl ed' = zr 0 6 ∧ M ed' ≠ none) ∨ (M ed' = none ∧ ed' ≠ q1 ∧ ed' ≠ q2)) (heda : ed' ≠ A 0 1) (hcap : cap' ≤ 1000) (hg : ∀ j, j < N 0 0 → g' j = some (A 1 j)) (hg1 : g' (N 0 0) = some q1) (hkeep : ∀ x, x ≠ A 0 1 → x ≠ ed' → x ≠ q1 → x ≠ q2 → M' x = M x) :
    ∃ rl' A', zRep M' rl' dA A' (zS (zS S 0 (N 0 0) (zIt s0 r0 d0)) 1 (N 0 0) f0) (zN1 N 0 0 (N 0 0 + 1)) T ∧ zFr M rl M' rl' ∧ A' 0 0 = A 0 0 := by
  obtain ⟨h1, h2, h3, h4, h5, ⟨g6, h6, h6b⟩, h7, h8, h9, h10, h11, b1, b2, b3⟩ := hr
  have l1 : rl (A 0 1) = zr 0 1 := by obtain ⟨_, _, _, _, _, w, _⟩ := h2; exact w
  have m1 : M (A 0 1) ≠ none := by
    obtain ⟨_, _, _, w, _⟩ := h2
    rw [w.1]
    exact fun q => by cases q
  obtain ⟨rl', erl⟩ : ∃ rl', rl' = va_up (va_up (va_up rl q1 (zr 1 (N 0 0))) q2 (zr 2 (N 0 0))) ed' (zr 0 6) := ⟨_, rfl⟩
  have hfr : ∀ x, M x ≠ none → x ≠ ed' → rl' x = rl x := fun x hx he => by
    rw [erl, va_up_ne _ _ he, va_up_ne _ _ (fun q => hx (by rw [q]; exact f2)), va_up_ne _ _ (fun q => hx (by rw [q]; exact f1))]
  have hned : ∀ x, M x ≠ none → rl x ≠ zr 0 6 → x ≠ ed' := fun x hx hr q => by
    rcases hed with ⟨w, _⟩ | ⟨w, _⟩
    · exact hr (by rw [q]; exact w)
    · exact hx (by rw [q]; exact w)
  have hk : ∀ x, M x ≠ none → rl x ≠ zr 0 1 → rl x ≠ zr 0 6 → M' x = M x ∧ rl' x = rl x := fun x hx ha hb =>
    ⟨hkeep x (fun q => ha (by rw [q]; exact l1)) (hned x hx hb) (fun q => hx (by rw [q]; exact f1)) (fun q => hx (by rw [q]; exact f2)), hfr x hx (hned x hx hb)⟩
  have r1 : rl' q1 = zr 1 (N 0 0) := by
    have : q1 ≠ ed' := fun q => by
      rcases hed with ⟨_, w⟩ | ⟨_, w, _⟩
      · exact w (by rw [← q]; exact f1)
      · exact w q.symm
    rw [erl, va_up_ne _ _ this, va_up_ne _ _ f12, va_up_self]
  have r2 : rl' q2 = zr 2 (N 0 0) := by
    have : q2 ≠ ed' := fun q => by
      rcases hed with ⟨_, w⟩ | ⟨_, _, w⟩
      · exact w (by rw [← q]; exact f2)
      · exact w q.symm
    rw [erl, va_up_ne _ _ this, va_up_self]
  obtain ⟨A', eA⟩ : ∃ A', A' = zA (zA (zA A 0 6 ed') 1 (N 0 0) q1) 2 (N 0 0) q2 := ⟨_, rfl⟩
  have a0 : ∀ i, i ≠ 6 → A' 0 i = A 0 i := fun i hi => by rw [eA, zA_t (by decide), zA_t (by decide), zA_n hi]
  have a06 : A' 0 6 = ed' := by rw [eA, zA_t (by decide), zA_t (by decide), zA_e]
  have a1 : ∀ i, i ≠ N 0 0 → A' 1 i = A 1 i := fun i hi => by rw [eA, zA_t (by decide), zA_n hi, zA_t (by decide)]
  have a1n : A' 1 (N 0 0) = q1 := by rw [eA, zA_t (by decide), zA_e]
  have a2 : ∀ i, i ≠ N 0 0 → A' 2 i = A 2 i := fun i hi => by rw [eA, zA_n hi, zA_t (by decide), zA_t (by decide)]
  have a2n : A' 2 (N 0 0) = q2 := by rw [eA, zA_e]
  have at3 : ∀ t i, t ≠ 0 → t ≠ 1 → t ≠ 2 → A' t i = A t i := fun t i x0 x1 x2 => by rw [eA, zA_t x2, zA_t x1, zA_t x0]
  have s3 : ∀ t i, t ≠ 0 → t ≠ 1 → zS (zS S 0 (N 0 0) (zIt s0 r0 d0)) 1 (N 0 0) f0 t i = S t i := fun t i x0 x1 => by rw [zS_t x1, zS_t x0]
  have s0n : ∀ i, i ≠ N 0 0 → zS (zS S 0 (N 0 0) (zIt s0 r0 d0)) 1 (N 0 0) f0 0 i = S 0 i := fun i hi => by rw [zS_t (by decide), zS_n hi]
  have s0e : zS (zS S 0 (N 0 0) (zIt s0 r0 d0)) 1 (N 0 0) f0 0 (N 0 0) = zIt s0 r0 d0 := by rw [zS_t (by decide), zS_e]
  have s1n : ∀ i, i ≠ N 0 0 → zS (zS S 0 (N 0 0) (zIt s0 r0 d0)) 1 (N 0 0) f0 1 i = S 1 i := fun i hi => by rw [zS_n hi, zS_t (by decide)]
  have s1e : zS (zS S 0 (N 0 0) (zIt s0 r0 d0)) 1 (N 0 0) f0 1 (N 0 0) = f0 := zS_e _ _ _ _
  have n0 : zN1 N 0 0 (N 0 0 + 1) 0 0 = N 0 0 + 1 := zN_e _ _ _ _
  have nt : ∀ t i, t ≠ 0 → zN1 N 0 0 (N 0 0 + 1) t i = N t i := fun t i x0 => zN_t x0
  refine ⟨rl', A', ?_, fun x hx hr => hk x hx (by unfold zr; omega) (by unfold zr; omega), a0 0 (by decide)⟩
  unfold zRep
  rw [a0 0 (by decide), a0 1 (by decide), a0 2 (by decide), a0 3 (by decide), a0 4 (by decide), a0 5 (by decide), a0 7 (by decide), a06, n0, nt 1 0 (by decide), nt 2 0 (by decide), s3 3 0 (by decide) (by decide)]
  have h1' := zAt_k2 hk h1 (show zr 0 0 ≠ zr 0 1 by decide) (show zr 0 0 ≠ zr 0 6 by decide)
  refine ⟨h1', ⟨cap', g', mo', hL, hcap, ?_, Or.inr ?_, fun i hi => ?_⟩, ?_, zAt_k2 hk h4 (by unfold zr; omega) (by unfold zr; omega), zAt_k2 hk h5 (by unfold zr; omega) (by unfold zr; omega), ⟨g6, zAt_k2 hk h6 (by unfold zr; omega) (by unfold zr; omega), fun d hd => by rw [at3 4 d (by decide) (by decide) (by decide)]; exact h6b d hd⟩, fun j hj => ?_, fun i hi => ?_, fun d hd => ?_, fun d j hd hj => ?_, fun d j hd hj => ?_, by omega, b2, b3⟩
  · rw [hfr _ m1 (fun q => heda q.symm)]; exact l1
  · rw [erl, va_up_self]
  · by_cases e : i = N 0 0
    · subst e; rw [a1n]; exact hg1
    · rw [a1 i e]; exact hg i (by omega)
  · have := zLr_k2 hk h3 (by unfold zr; omega) (by unfold zr; omega) (by unfold zr; omega) (by unfold zr; omega)
    obtain ⟨c3, g3, mo3, w1, w2, w3, w4, w5⟩ := this
    exact ⟨c3, g3, mo3, w1, w2, w3, w4, fun i hi => by rw [at3 3 i (by decide) (by decide) (by decide)]; exact w5 i hi⟩
  · by_cases e : j = N 0 0
    · subst e
      rw [a1n, a2n, s0e, s1e]
      exact ⟨⟨hM1, r1⟩, ⟨hM2, r2⟩, Or.inl rfl⟩
    · rw [a1 j e, a2 j e, s0n j e, s1n j e]
      have hj' : j < N 0 0 := by omega
      exact ⟨zAt_k2 hk (h7 j hj').1 (by unfold zr; omega) (by unfold zr; omega), zAt_k2 hk (h7 j hj').2.1 (by unfold zr; omega) (by unfold zr; omega), (h7 j hj').2.2⟩
  · rw [at3 3 i (by decide) (by decide) (by decide), s3 2 i (by decide) (by decide)]
    exact zAt_k2 hk (h8 i hi) (by unfold zr; omega) (by unfold zr; omega)
  · rw [nt 3 d (by decide), nt 4 d (by decide), at3 4 d (by decide) (by decide) (by decide), at3 5 d (by decide) (by decide) (by decide), at3 6 d (by decide) (by decide) (by decide), at3 7 d (by decide) (by decide) (by decide), at3 8 d (by decide) (by decide) (by decide), s3 4 d (by decide) (by decide)]
    have w := h9 d hd
    have e9 : (fun j => A' 9 (100 * d + j)) = fun j => A 9 (100 * d + j) := by funext j; exact at3 9 _ (by decide) (by decide) (by decide)
    have e10 : (fun j => A' 10 (100 * d + j)) = fun j => A 10 (100 * d + j) := by funext j; exact at3 10 _ (by decide) (by decide) (by decide)
    rw [e9, e10]
    exact ⟨zAt_k2 hk w.1 (by unfold zr; omega) (by unfold zr; omega), w.2.1, zLr_k2 hk w.2.2.1 (by unfold zr; omega) (by unfold zr; omega) (by unfold zr; omega) (by unfold zr; omega), zLr_k2 hk w.2.2.2.1 (by unfold zr; omega) (by unfold zr; omega) (by unfold zr; omega) (by unfold zr; omega), w.2.2.2.2.1, by omega⟩
  · rw [nt 3 d (by decide)] at hj
    have w := h10 d j hd hj
    have w9 := (h9 d hd).2.2.2.2
    rw [at3 9 _ (by decide) (by decide) (by decide), nt 5 _ (by decide), s3 5 _ (by decide) (by decide), a1 _ (by omega)]
    exact ⟨zAt_k2 hk w.1 (by unfold zr; omega) (by unfold zr; omega), by omega⟩
  · rw [nt 4 d (by decide)] at hj
    have w := h11 d j hd hj
    have w9 := (h9 d hd).2.2.2.2
    rw [at3 10 _ (by decide) (by decide) (by decide), s3 6 _ (by decide) (by decide)]
    exact ⟨zAt_k2 hk w.1 (by unfold zr; omega) (by unfold zr; omega), w.2⟩
theorem zel_of {M : zVw} {n : Nat} {g : Nat → Option Nat} {ea : Nat → Nat} {ci : Nat} {r : vw_C} (hg : ∀ i, i < n → g i = some (ea i)) (hM : ∀ i, i < n → ∃ fs, M (ea i) = some (.inr (ci, fs))) (hr : kc[ci]? = some r) (hc : Cond.castable r.1 "java/lang/Object" ∈ tx) : zEl M n g := by
  intro i hi y hy
  rw [hg i hi] at hy
  cases hy
  obtain ⟨fs, h⟩ := hM i hi
  exact ⟨ci, fs, r, h, hr, hc⟩
theorem zEl_k {M M' : zVw} {n : Nat} {g : Nat → Option Nat} (h : zEl M n g) (hk : ∀ x, M x ≠ none → M' x = M x) : zEl M' n g := by
  intro i hi y hy
  obtain ⟨ci, fs, r, h1, h2⟩ := h i hi y hy
  exact ⟨ci, fs, r, by rw [hk y (by rw [h1]; exact fun q => by cases q)]; exact h1, h2⟩
def zItem (S : Nat → Nat → Nat → Int32) (N : Nat → Nat → Nat) (s0 r0 v : Int32) (S' : Nat → Nat → Nat → Int32) (N' : Nat → Nat → Nat) : Prop :=
  (¬ ((0 ≤ s0 ∧ s0 ≤ 5) ∧ 0 ≤ r0 ∧ r0 < 100) ∧ v = -12 ∧ S' = S ∧ N' = N) ∨ (((0 ≤ s0 ∧ s0 ≤ 5) ∧ 0 ≤ r0 ∧ r0 < 100) ∧
    ((N 0 0 = 60 ∧ v = -14 ∧ S' = S ∧ N' = N) ∨ (N 0 0 < 60 ∧ v = nI (N 0 0 + 1) ∧ S' = zS (zS S 0 (N 0 0) (zIt s0 r0 (zdue (nI (N 0 0 + 1)) s0))) 1 (N 0 0) f0 ∧ N' = zN1 N 0 0 (N 0 0 + 1))))
set_option maxHeartbeats 4000000 in
set_option maxRecDepth 100000 in
/-- item -/
theorem c_D_item (l : Launch) (D : va_G) (dA : Nat → ClassId) (z : Nat) (M : zVw) (rl : Nat → Nat) (A : Nat → Nat → Nat) (S : Nat → Nat → Nat → Int32) (N : Nat → Nat → Nat) (T : Nat → Int64) (s0 r0 : Int32) (hr : zRep M rl dA A S N T) : zMet l y_D_item b_D_item 3 (some .int) 7 171 3 1526 D dA z [.ref (A 0 0), .int s0, .int r0] M (fun v M' => ∃ r S' N' rl' A', v = some (.int r) ∧ zRep M' rl' dA A' S' N' T ∧ zFr M rl M' rl' ∧ A' 0 0 = A 0 0 ∧ zItem S N s0 r0 r S' N') := by
  have hM2 := hr.1.1
  unfold zDo at hM2
  have hb := hr.2.2.2.2.2.2.2.2.2.2.2.1
  obtain ⟨cap, g, mo, q1, q2, q3, q4, q5⟩ := hr.2.1
  refine z_of 1 false (by decide) (fun h => by first | rfl | cases h) (Nat.le_of_ble_eq_true rfl) trivial ?_
  intro p e s m args below meth c C hR
  have out : ¬ ((0 ≤ s0 ∧ s0 ≤ 5) ∧ 0 ≤ r0 ∧ r0 < 100) → ∃ r S' N' rl' A', some (Value.int (-12)) = some (Value.int r) ∧ zRep M rl' dA A' S' N' T ∧ zFr M rl M rl' ∧ A' 0 0 = A 0 0 ∧ zItem S N s0 r0 r S' N' := fun q => ⟨-12, S, N, rl, A, rfl, hr, zFr_r _ _, rfl, Or.inl ⟨q, rfl, rfl, rfl⟩⟩
  refine zgo (cut := fun _ => false) 60 C lk_D hR ?_
  simp only [zs_iconst, zs_bipush, zs_iload_n, zs_aload_n, zs_iadd, zs_dup0, zs_dup1, zs_pop0, zs_pop1, zs_pop2, zs_dup2, zs_if_ne, zs_if_lt, zs_icmp_lt, zs_icmp_gt, zs_get, zs_ireturn, zx_iv, zx_is, zx_it, zx_nw, zx_na, zx_an, zx_cc, zx_gs, zx_as, zx_ae, zx_ac, zx_at, zr_seg, zr_t, zr_f, zr_tp, zr_fp, zr_lg, zr_lr, zr_lr0, zr_wi, zr_wr, zr_wn, zr_wl, zr_vo, zr_so, zr_sI, zr_sL, zr_sA, zr_sN, zr_in, zr_rd, zr_wr2, zr_kf, zr_k0, zr_k1, zr_k2, zr_k3, zr_k3n, zr_k10, zr_k11, zr_k12, zr_k13, zr_k13n, zr_ai, zr_af, zr_aw, zr_aL, zr_Lf, zr_Lw, zr_l2, zr_l20, zr_al, zr_an, zr_aq, zr_ag, zr_rfs, zr_rfn, zr_r1, zr_r2, zr_w0, zr_w1, zr_tl, zr_40, zr_41, zr_42, zr_43, d_D_item_0, d_D_item_1, zt_1_15, zo_1_15, d_D_item_4, d_D_item_5, ci_5, d_D_item_6, zt_6_10, zo_6_10, d_D_item_9, d_D_item_10, d_D_item_13, zt_13_6, zo_13_6, d_D_item_16, cb_m12, d_D_item_18, d_D_item_19, d_D_item_20, fl_D_12, d_D_item_23, d_D_item_26, cb_60, d_D_item_28, zt_28_6, zo_28_6, d_D_item_31, cb_m14, d_D_item_33, d_D_item_34, d_D_item_35, d_D_item_38, d_D_item_41, d_D_item_42, d_D_item_43, d_D_item_46, d_D_item_49, ci_1, d_D_item_50, d_D_item_51, d_D_item_52, d_D_item_53, d_D_item_56, d_D_item_59, d_D_item_60, d_D_item_61, d_D_item_64, d_D_item_67, za_0, za_i, za_r, za_n, za_l, zu_s, zu_u, Nat.reduceAdd, Nat.reduceLT, Nat.reduceBEq, Nat.zero_add, Bool.false_or, Bool.or_false, Bool.true_or, Bool.or_true, Bool.false_and, Bool.and_false, Bool.true_and, Bool.and_true, true_and, and_true, true_or, or_true, eq_self, Nat.le_refl, List.getElem?_cons_succ, List.getElem?_cons_zero, List.set_cons_succ, List.set_cons_zero, zk_0, zk_1, zk_2, zk_3, zk_4, zq_1, zq_2, Option.isSome_some, Option.getD_some, Option.toList_some, Option.toList_none, List.cons_append, List.nil_append, hM2, Nat.zero_le, true_implies, false_implies, not_true_eq_false, not_false_eq_true, zn_10, Int32.reduceLT, Int32.reduceLE, implies_true, and_self]
  refine ⟨fun q => out (by clear hR C; (simp only [Int32.lt_iff_toInt_lt, Int32.le_iff_toInt_le, ← Int32.toInt_inj, Int32.reduceToInt] at *; omega)), fun q => ⟨fun w => out (by clear hR C; (simp only [Int32.lt_iff_toInt_lt, Int32.le_iff_toInt_le, ← Int32.toInt_inj, Int32.reduceToInt] at *; omega)), fun w => ?_⟩⟩
  refine zJ_callS (As := [.int r0]) (rest := []) C d_D_item_10 (c_D_isPerson l D dA z M r0) k_D_37 s_D_isPerson ⟨(Nat.le_of_ble_eq_true rfl), (Nat.le_of_ble_eq_true rfl)⟩ ⟨(Nat.le_of_ble_eq_true rfl), (Nat.le_of_ble_eq_true rfl)⟩ rfl (Nat.le_of_ble_eq_true rfl) ?_
  rintro v M' ⟨rfl, rfl⟩
  by_cases hp : 0 ≤ r0 ∧ r0 < 100
  · rw [zb_t hp]
    refine zgo (cut := fun _ => false) 60 C lk_D hR ?_
    simp only [zs_iconst, zs_bipush, zs_iload_n, zs_aload_n, zs_iadd, zs_dup0, zs_dup1, zs_pop0, zs_pop1, zs_pop2, zs_dup2, zs_if_ne, zs_if_lt, zs_icmp_lt, zs_icmp_gt, zs_get, zs_ireturn, zx_iv, zx_is, zx_it, zx_nw, zx_na, zx_an, zx_cc, zx_gs, zx_as, zx_ae, zx_ac, zx_at, zr_seg, zr_t, zr_f, zr_tp, zr_fp, zr_lg, zr_lr, zr_lr0, zr_wi, zr_wr, zr_wn, zr_wl, zr_vo, zr_so, zr_sI, zr_sL, zr_sA, zr_sN, zr_in, zr_rd, zr_wr2, zr_kf, zr_k0, zr_k1, zr_k2, zr_k3, zr_k3n, zr_k10, zr_k11, zr_k12, zr_k13, zr_k13n, zr_ai, zr_af, zr_aw, zr_aL, zr_Lf, zr_Lw, zr_l2, zr_l20, zr_al, zr_an, zr_aq, zr_ag, zr_rfs, zr_rfn, zr_r1, zr_r2, zr_w0, zr_w1, zr_tl, zr_40, zr_41, zr_42, zr_43, d_D_item_0, d_D_item_1, zt_1_15, zo_1_15, d_D_item_4, d_D_item_5, ci_5, d_D_item_6, zt_6_10, zo_6_10, d_D_item_9, d_D_item_10, d_D_item_13, zt_13_6, zo_13_6, d_D_item_16, cb_m12, d_D_item_18, d_D_item_19, d_D_item_20, fl_D_12, d_D_item_23, d_D_item_26, cb_60, d_D_item_28, zt_28_6, zo_28_6, d_D_item_31, cb_m14, d_D_item_33, d_D_item_34, d_D_item_35, d_D_item_38, d_D_item_41, d_D_item_42, d_D_item_43, d_D_item_46, d_D_item_49, ci_1, d_D_item_50, d_D_item_51, d_D_item_52, d_D_item_53, d_D_item_56, d_D_item_59, d_D_item_60, d_D_item_61, d_D_item_64, d_D_item_67, za_0, za_i, za_r, za_n, za_l, zu_s, zu_u, Nat.reduceAdd, Nat.reduceLT, Nat.reduceBEq, Nat.zero_add, Bool.false_or, Bool.or_false, Bool.true_or, Bool.or_true, Bool.false_and, Bool.and_false, Bool.true_and, Bool.and_true, true_and, and_true, true_or, or_true, eq_self, Nat.le_refl, List.getElem?_cons_succ, List.getElem?_cons_zero, List.set_cons_succ, List.set_cons_zero, zk_0, zk_1, zk_2, zk_3, zk_4, zq_1, zq_2, Option.isSome_some, Option.getD_some, Option.toList_some, Option.toList_none, List.cons_append, List.nil_append, hM2, Nat.zero_le, true_implies, false_implies, not_true_eq_false, not_false_eq_true, zn_10, Int32.reduceLT, Int32.reduceLE, implies_true, and_self]
    refine zJ_callV (As := []) (rest := []) C d_D_item_23 (c_L_size l D dA z M' (A 0 1) (A 0 6) (N 0 0) mo q1.1) k_D_41 n_L_size v_L_size q1.1 rfl rfl ⟨(Nat.le_of_ble_eq_true rfl), (Nat.le_of_ble_eq_true rfl)⟩ ⟨(Nat.le_of_ble_eq_true rfl), (Nat.le_of_ble_eq_true rfl)⟩ rfl (Nat.le_of_ble_eq_true rfl) ?_
    rintro v M'' ⟨rfl, rfl⟩
    refine zgo (cut := fun _ => false) 60 C lk_D hR ?_
    simp only [zs_iconst, zs_bipush, zs_iload_n, zs_aload_n, zs_iadd, zs_dup0, zs_dup1, zs_pop0, zs_pop1, zs_pop2, zs_dup2, zs_if_ne, zs_if_lt, zs_icmp_lt, zs_icmp_gt, zs_get, zs_ireturn, zx_iv, zx_is, zx_it, zx_nw, zx_na, zx_an, zx_cc, zx_gs, zx_as, zx_ae, zx_ac, zx_at, zr_seg, zr_t, zr_f, zr_tp, zr_fp, zr_lg, zr_lr, zr_lr0, zr_wi, zr_wr, zr_wn, zr_wl, zr_vo, zr_so, zr_sI, zr_sL, zr_sA, zr_sN, zr_in, zr_rd, zr_wr2, zr_kf, zr_k0, zr_k1, zr_k2, zr_k3, zr_k3n, zr_k10, zr_k11, zr_k12, zr_k13, zr_k13n, zr_ai, zr_af, zr_aw, zr_aL, zr_Lf, zr_Lw, zr_l2, zr_l20, zr_al, zr_an, zr_aq, zr_ag, zr_rfs, zr_rfn, zr_r1, zr_r2, zr_w0, zr_w1, zr_tl, zr_40, zr_41, zr_42, zr_43, d_D_item_0, d_D_item_1, zt_1_15, zo_1_15, d_D_item_4, d_D_item_5, ci_5, d_D_item_6, zt_6_10, zo_6_10, d_D_item_9, d_D_item_10, d_D_item_13, zt_13_6, zo_13_6, d_D_item_16, cb_m12, d_D_item_18, d_D_item_19, d_D_item_20, fl_D_12, d_D_item_23, d_D_item_26, cb_60, d_D_item_28, zt_28_6, zo_28_6, d_D_item_31, cb_m14, d_D_item_33, d_D_item_34, d_D_item_35, d_D_item_38, d_D_item_41, d_D_item_42, d_D_item_43, d_D_item_46, d_D_item_49, ci_1, d_D_item_50, d_D_item_51, d_D_item_52, d_D_item_53, d_D_item_56, d_D_item_59, d_D_item_60, d_D_item_61, d_D_item_64, d_D_item_67, za_0, za_i, za_r, za_n, za_l, zu_s, zu_u, Nat.reduceAdd, Nat.reduceLT, Nat.reduceBEq, Nat.zero_add, Bool.false_or, Bool.or_false, Bool.true_or, Bool.or_true, Bool.false_and, Bool.and_false, Bool.true_and, Bool.and_true, true_and, and_true, true_or, or_true, eq_self, Nat.le_refl, List.getElem?_cons_succ, List.getElem?_cons_zero, List.set_cons_succ, List.set_cons_zero, zk_0, zk_1, zk_2, zk_3, zk_4, zq_1, zq_2, Option.isSome_some, Option.getD_some, Option.toList_some, Option.toList_none, List.cons_append, List.nil_append, hM2, Nat.zero_le, true_implies, false_implies, not_true_eq_false, not_false_eq_true, zn_10, Int32.reduceLT, Int32.reduceLE, implies_true, and_self]
    have hk : (0 ≤ s0 ∧ s0 ≤ 5) ∧ 0 ≤ r0 ∧ r0 < 100 := by clear hR C out; (simp only [Int32.lt_iff_toInt_lt, Int32.le_iff_toInt_le, ← Int32.toInt_inj, Int32.reduceToInt] at *; omega)
    refine ⟨fun y => ?_, fun y => ⟨-14, S, N, rl, A, rfl, hr, zFr_r _ _, rfl, Or.inr ⟨hk, Or.inl ⟨by
      rcases Nat.lt_or_ge (N 0 0) 60 with u | u
      · exact absurd (nI_lt u (by decide)) y
      · omega, rfl, rfl, rfl⟩⟩⟩⟩
    have hlt : N 0 0 < 60 := (nI_ltI (by omega) (by omega)).mp y
    have mL : M'' (A 0 1) ≠ none := by rw [q1.1]; exact fun u => by cases u
    refine zJ_new [.int 0, .int 0, .int 0, .null, .int 0] C q_I d_D_item_38 (by decide +kernel) (by decide) ⟨by show 0 + 1 ≤ 3; omega, by show 0 + 5 ≤ 1526; omega⟩ (fun i1 f1 hz1 => ?_)
    have n1 : A 0 0 ≠ i1 := fun u => by rw [← u, hM2] at f1; cases f1
    have nL : A 0 1 ≠ i1 := fun u => mL (by rw [u]; exact f1)
    refine zgo (cut := fun _ => false) 60 C lk_D hR ?_
    simp only [zs_iconst, zs_bipush, zs_iload_n, zs_aload_n, zs_iadd, zs_dup0, zs_dup1, zs_pop0, zs_pop1, zs_pop2, zs_dup2, zs_if_ne, zs_if_lt, zs_icmp_lt, zs_icmp_gt, zs_get, zs_ireturn, zx_iv, zx_is, zx_it, zx_nw, zx_na, zx_an, zx_cc, zx_gs, zx_as, zx_ae, zx_ac, zx_at, zr_seg, zr_t, zr_f, zr_tp, zr_fp, zr_lg, zr_lr, zr_lr0, zr_wi, zr_wr, zr_wn, zr_wl, zr_vo, zr_so, zr_sI, zr_sL, zr_sA, zr_sN, zr_in, zr_rd, zr_wr2, zr_kf, zr_k0, zr_k1, zr_k2, zr_k3, zr_k3n, zr_k10, zr_k11, zr_k12, zr_k13, zr_k13n, zr_ai, zr_af, zr_aw, zr_aL, zr_Lf, zr_Lw, zr_l2, zr_l20, zr_al, zr_an, zr_aq, zr_ag, zr_rfs, zr_rfn, zr_r1, zr_r2, zr_w0, zr_w1, zr_tl, zr_40, zr_41, zr_42, zr_43, d_D_item_0, d_D_item_1, zt_1_15, zo_1_15, d_D_item_4, d_D_item_5, ci_5, d_D_item_6, zt_6_10, zo_6_10, d_D_item_9, d_D_item_10, d_D_item_13, zt_13_6, zo_13_6, d_D_item_16, cb_m12, d_D_item_18, d_D_item_19, d_D_item_20, fl_D_12, d_D_item_23, d_D_item_26, cb_60, d_D_item_28, zt_28_6, zo_28_6, d_D_item_31, cb_m14, d_D_item_33, d_D_item_34, d_D_item_35, d_D_item_38, d_D_item_41, d_D_item_42, d_D_item_43, d_D_item_46, d_D_item_49, ci_1, d_D_item_50, d_D_item_51, d_D_item_52, d_D_item_53, d_D_item_56, d_D_item_59, d_D_item_60, d_D_item_61, d_D_item_64, d_D_item_67, za_0, za_i, za_r, za_n, za_l, zu_s, zu_u, Nat.reduceAdd, Nat.reduceLT, Nat.reduceBEq, Nat.zero_add, Bool.false_or, Bool.or_false, Bool.true_or, Bool.or_true, Bool.false_and, Bool.and_false, Bool.true_and, Bool.and_true, true_and, and_true, true_or, or_true, eq_self, Nat.le_refl, List.getElem?_cons_succ, List.getElem?_cons_zero, List.set_cons_succ, List.set_cons_zero, zk_0, zk_1, zk_2, zk_3, zk_4, zq_1, zq_2, Option.isSome_some, Option.getD_some, Option.toList_some, Option.toList_none, List.cons_append, List.nil_append, hM2, zu_n n1, true_implies, false_implies, not_true_eq_false, not_false_eq_true, zn_10, Int32.reduceLT, Int32.reduceLE, implies_true, and_self]
    refine zJ_callV (As := []) (rest := [.ref i1, .ref i1, .ref (A 0 1)]) C d_D_item_46 (c_L_size l D dA z _ (A 0 1) (A 0 6) (N 0 0) mo (by rw [zu_n nL]; exact q1.1)) k_D_41 n_L_size v_L_size (by rw [zu_n nL]; exact q1.1) rfl rfl ⟨(Nat.le_of_ble_eq_true rfl), (Nat.le_of_ble_eq_true rfl)⟩ ⟨(Nat.le_of_ble_eq_true rfl), (Nat.le_of_ble_eq_true rfl)⟩ rfl (Nat.le_of_ble_eq_true rfl) ?_
    rintro v M1 ⟨rfl, rfl⟩
    refine zgo (cut := fun _ => false) 60 C lk_D hR ?_
    simp only [zs_iconst, zs_bipush, zs_iload_n, zs_aload_n, zs_iadd, zs_dup0, zs_dup1, zs_pop0, zs_pop1, zs_pop2, zs_dup2, zs_if_ne, zs_if_lt, zs_icmp_lt, zs_icmp_gt, zs_get, zs_ireturn, zx_iv, zx_is, zx_it, zx_nw, zx_na, zx_an, zx_cc, zx_gs, zx_as, zx_ae, zx_ac, zx_at, zr_seg, zr_t, zr_f, zr_tp, zr_fp, zr_lg, zr_lr, zr_lr0, zr_wi, zr_wr, zr_wn, zr_wl, zr_vo, zr_so, zr_sI, zr_sL, zr_sA, zr_sN, zr_in, zr_rd, zr_wr2, zr_kf, zr_k0, zr_k1, zr_k2, zr_k3, zr_k3n, zr_k10, zr_k11, zr_k12, zr_k13, zr_k13n, zr_ai, zr_af, zr_aw, zr_aL, zr_Lf, zr_Lw, zr_l2, zr_l20, zr_al, zr_an, zr_aq, zr_ag, zr_rfs, zr_rfn, zr_r1, zr_r2, zr_w0, zr_w1, zr_tl, zr_40, zr_41, zr_42, zr_43, d_D_item_0, d_D_item_1, zt_1_15, zo_1_15, d_D_item_4, d_D_item_5, ci_5, d_D_item_6, zt_6_10, zo_6_10, d_D_item_9, d_D_item_10, d_D_item_13, zt_13_6, zo_13_6, d_D_item_16, cb_m12, d_D_item_18, d_D_item_19, d_D_item_20, fl_D_12, d_D_item_23, d_D_item_26, cb_60, d_D_item_28, zt_28_6, zo_28_6, d_D_item_31, cb_m14, d_D_item_33, d_D_item_34, d_D_item_35, d_D_item_38, d_D_item_41, d_D_item_42, d_D_item_43, d_D_item_46, d_D_item_49, ci_1, d_D_item_50, d_D_item_51, d_D_item_52, d_D_item_53, d_D_item_56, d_D_item_59, d_D_item_60, d_D_item_61, d_D_item_64, d_D_item_67, za_0, za_i, za_r, za_n, za_l, zu_s, zu_u, Nat.reduceAdd, Nat.reduceLT, Nat.reduceBEq, Nat.zero_add, Bool.false_or, Bool.or_false, Bool.true_or, Bool.or_true, Bool.false_and, Bool.and_false, Bool.true_and, Bool.and_true, true_and, and_true, true_or, or_true, eq_self, Nat.le_refl, List.getElem?_cons_succ, List.getElem?_cons_zero, List.set_cons_succ, List.set_cons_zero, zk_0, zk_1, zk_2, zk_3, zk_4, zq_1, zq_2, Option.isSome_some, Option.getD_some, Option.toList_some, Option.toList_none, List.cons_append, List.nil_append, nI_1, true_implies, false_implies, not_true_eq_false, not_false_eq_true, zn_10, Int32.reduceLT, Int32.reduceLE, implies_true, and_self]
    refine zJ_callI (As := [.int (nI (N 0 0 + 1)), .int s0, .int r0]) (rest := [.ref i1, .ref (A 0 1)]) C d_D_item_53 (c_I_init l D dA z _ i1 (nI (N 0 0 + 1)) s0 r0 (zu_s _ _ _)) k_D_47 n_I_init rfl ⟨(Nat.le_of_ble_eq_true rfl), (Nat.le_of_ble_eq_true rfl)⟩ ⟨(Nat.le_of_ble_eq_true rfl), (Nat.le_of_ble_eq_true rfl)⟩ rfl (Nat.le_of_ble_eq_true rfl) ?_
    rintro v M2 ⟨rfl, i2, f2', rfl⟩
    have n21 : i2 ≠ i1 := fun u => by rw [u, zu_s] at f2'; cases f2'
    have f2 : M'' i2 = none := by rw [zu_n n21] at f2'; exact f2'
    have nL2 : A 0 1 ≠ i2 := fun u => mL (by rw [u]; exact f2)
    rw [zu_c n21]
    obtain ⟨M2, eM2⟩ : ∃ M2, M2 = zu (zu M'' i2 (fA f0)) i1 (iA (nI (N 0 0 + 1)) s0 r0 i2 (zdue (nI (N 0 0 + 1)) s0)) := ⟨_, rfl⟩
    rw [← eM2]
    have k2 : ∀ x, x ≠ i1 → x ≠ i2 → M2 x = M'' x := fun x a b => by rw [eM2, zu_n a, zu_n b]
    have k3 : ∀ x, M'' x ≠ none → M2 x = M'' x := fun x a => k2 x (fun u => a (by rw [u]; exact f1)) (fun u => a (by rw [u]; exact f2))
    have hL2 : zLs M2 dA (A 0 1) (A 0 6) (N 0 0) cap g mo := by
      refine ⟨by rw [k3 _ mL]; exact q1.1, ?_⟩
      rcases q1.2 with u | ⟨u, u2⟩
      · exact Or.inl u
      · exact Or.inr ⟨by rw [k3 _ (by rw [u]; exact fun w => by cases w)]; exact u, u2⟩
    have m21 : M2 i1 = some (iA (nI (N 0 0 + 1)) s0 r0 i2 (zdue (nI (N 0 0 + 1)) s0)) := by rw [eM2, zu_s]
    have m22 : M2 i2 = some (fA f0) := by rw [eM2, zu_n n21, zu_s]
    have hel : zEl M2 (N 0 0) g := zEl_k (zel_of (ci := 6) q5 (fun i hi => ⟨_, (hr.2.2.2.2.2.2.1 i hi).1.1⟩) rfl (by decide +kernel)) k3
    refine zgo (cut := fun _ => false) 60 C lk_D hR ?_
    simp only [zs_iconst, zs_bipush, zs_iload_n, zs_aload_n, zs_iadd, zs_dup0, zs_dup1, zs_pop0, zs_pop1, zs_pop2, zs_dup2, zs_if_ne, zs_if_lt, zs_icmp_lt, zs_icmp_gt, zs_get, zs_ireturn, zx_iv, zx_is, zx_it, zx_nw, zx_na, zx_an, zx_cc, zx_gs, zx_as, zx_ae, zx_ac, zx_at, zr_seg, zr_t, zr_f, zr_tp, zr_fp, zr_lg, zr_lr, zr_lr0, zr_wi, zr_wr, zr_wn, zr_wl, zr_vo, zr_so, zr_sI, zr_sL, zr_sA, zr_sN, zr_in, zr_rd, zr_wr2, zr_kf, zr_k0, zr_k1, zr_k2, zr_k3, zr_k3n, zr_k10, zr_k11, zr_k12, zr_k13, zr_k13n, zr_ai, zr_af, zr_aw, zr_aL, zr_Lf, zr_Lw, zr_l2, zr_l20, zr_al, zr_an, zr_aq, zr_ag, zr_rfs, zr_rfn, zr_r1, zr_r2, zr_w0, zr_w1, zr_tl, zr_40, zr_41, zr_42, zr_43, d_D_item_0, d_D_item_1, zt_1_15, zo_1_15, d_D_item_4, d_D_item_5, ci_5, d_D_item_6, zt_6_10, zo_6_10, d_D_item_9, d_D_item_10, d_D_item_13, zt_13_6, zo_13_6, d_D_item_16, cb_m12, d_D_item_18, d_D_item_19, d_D_item_20, fl_D_12, d_D_item_23, d_D_item_26, cb_60, d_D_item_28, zt_28_6, zo_28_6, d_D_item_31, cb_m14, d_D_item_33, d_D_item_34, d_D_item_35, d_D_item_38, d_D_item_41, d_D_item_42, d_D_item_43, d_D_item_46, d_D_item_49, ci_1, d_D_item_50, d_D_item_51, d_D_item_52, d_D_item_53, d_D_item_56, d_D_item_59, d_D_item_60, d_D_item_61, d_D_item_64, d_D_item_67, za_0, za_i, za_r, za_n, za_l, zu_s, zu_u, Nat.reduceAdd, Nat.reduceLT, Nat.reduceBEq, Nat.zero_add, Bool.false_or, Bool.or_false, Bool.true_or, Bool.or_true, Bool.false_and, Bool.and_false, Bool.true_and, Bool.and_true, true_and, and_true, true_or, or_true, eq_self, Nat.le_refl, List.getElem?_cons_succ, List.getElem?_cons_zero, List.set_cons_succ, List.set_cons_zero, zk_0, zk_1, zk_2, zk_3, zk_4, zq_1, zq_2, Option.isSome_some, Option.getD_some, Option.toList_some, Option.toList_none, List.cons_append, List.nil_append, true_implies, false_implies, not_true_eq_false, not_false_eq_true, zn_10, Int32.reduceLT, Int32.reduceLE, implies_true, and_self]
    refine zJ_callV (As := [.ref i1]) (rest := []) C d_D_item_56 (c_L_add1 l D dA z M2 (A 0 1) (A 0 6) (N 0 0) cap i1 6 _ _ g mo hL2 (by omega) hel m21 rfl (by decide) (by decide +kernel)) k_D_50 n_L_add1 v_L_add1 hL2.1 rfl rfl ⟨(Nat.le_of_ble_eq_true rfl), (Nat.le_of_ble_eq_true rfl)⟩ ⟨by show 2 + 1 ≤ 3; omega, by show 16 + (cap + cap / 2 + 10) ≤ 1526; omega⟩ rfl (Nat.le_of_ble_eq_true rfl) ?_
    rintro v M3 ⟨rfl, ed', cap', g', w1, w2, w3, w4, w5, w6, w7, w8⟩
    have e1 : ed' ≠ i1 := fun u => by
      rcases w4 with ⟨w, w'⟩ | w
      · rcases q1.2 with ⟨_, _, a⟩ | ⟨a, _⟩
        · omega
        · rw [← w, u, f1] at a; cases a
      · rw [u, m21] at w; cases w
    have e2 : ed' ≠ i2 := fun u => by
      rcases w4 with ⟨w, w'⟩ | w
      · rcases q1.2 with ⟨_, _, a⟩ | ⟨a, _⟩
        · omega
        · rw [← w, u, f2] at a; cases a
      · rw [u, m22] at w; cases w
    obtain ⟨rl', A', g1, g2, g3⟩ := rep_item (M' := M3) (s0 := s0) (r0 := r0) (d0 := zdue (nI (N 0 0 + 1)) s0) (q1 := i1) (q2 := i2) hr hlt f1 f2 (fun u => n21 u.symm) w1 (by rw [w8 i1 (fun u => nL u.symm) (fun u => e1 u.symm)]; exact m21) (by rw [w8 i2 (fun u => nL2 u.symm) (fun u => e2 u.symm)]; exact m22) (by
      rcases w4 with ⟨w, w'⟩ | w
      · refine Or.inl ⟨?_, ?_⟩
        · rw [w]
          rcases q4 with a | a
          · omega
          · exact a
        · rw [w]
          rcases q1.2 with ⟨_, _, a⟩ | ⟨a, _⟩
          · omega
          · rw [a]; exact fun u => by cases u
      · refine Or.inr ⟨?_, e1, e2⟩
        rw [k2 ed' e1 e2] at w; exact w) w2 (by rcases w5 with w | w <;> omega) (fun j hj => by rw [w6 j hj]; exact q5 j hj) w7 (fun x a b c1 c2 => by rw [w8 x a b]; exact k2 x c1 c2)
    have h0 : M3 (A 0 0) = some (zDo (A 0 1) (A 0 2) (A 0 3) (A 0 5) (T 8)) := by
      have ne1 : A 0 0 ≠ A 0 1 := fun u => by have a := hr.1.1; rw [u, q1.1] at a; cases a
      have m00 : M'' (A 0 0) ≠ none := by rw [hr.1.1]; exact fun u => by cases u
      have ne2 : A 0 0 ≠ ed' := fun u => by
        rcases w4 with ⟨w, w'⟩ | w
        · rcases q1.2 with ⟨_, _, a⟩ | ⟨a, _⟩
          · omega
          · rw [← w, ← u, hr.1.1] at a; cases a
        · rw [← u, k3 _ m00] at w; exact m00 w
      rw [w8 _ ne1 ne2, k3 _ (by rw [hr.1.1]; exact fun u => by cases u)]; exact hr.1.1
    unfold zDo at h0
    refine zgo (cut := fun _ => false) 60 C lk_D hR ?_
    simp only [zs_iconst, zs_bipush, zs_iload_n, zs_aload_n, zs_iadd, zs_dup0, zs_dup1, zs_pop0, zs_pop1, zs_pop2, zs_dup2, zs_if_ne, zs_if_lt, zs_icmp_lt, zs_icmp_gt, zs_get, zs_ireturn, zx_iv, zx_is, zx_it, zx_nw, zx_na, zx_an, zx_cc, zx_gs, zx_as, zx_ae, zx_ac, zx_at, zr_seg, zr_t, zr_f, zr_tp, zr_fp, zr_lg, zr_lr, zr_lr0, zr_wi, zr_wr, zr_wn, zr_wl, zr_vo, zr_so, zr_sI, zr_sL, zr_sA, zr_sN, zr_in, zr_rd, zr_wr2, zr_kf, zr_k0, zr_k1, zr_k2, zr_k3, zr_k3n, zr_k10, zr_k11, zr_k12, zr_k13, zr_k13n, zr_ai, zr_af, zr_aw, zr_aL, zr_Lf, zr_Lw, zr_l2, zr_l20, zr_al, zr_an, zr_aq, zr_ag, zr_rfs, zr_rfn, zr_r1, zr_r2, zr_w0, zr_w1, zr_tl, zr_40, zr_41, zr_42, zr_43, d_D_item_0, d_D_item_1, zt_1_15, zo_1_15, d_D_item_4, d_D_item_5, ci_5, d_D_item_6, zt_6_10, zo_6_10, d_D_item_9, d_D_item_10, d_D_item_13, zt_13_6, zo_13_6, d_D_item_16, cb_m12, d_D_item_18, d_D_item_19, d_D_item_20, fl_D_12, d_D_item_23, d_D_item_26, cb_60, d_D_item_28, zt_28_6, zo_28_6, d_D_item_31, cb_m14, d_D_item_33, d_D_item_34, d_D_item_35, d_D_item_38, d_D_item_41, d_D_item_42, d_D_item_43, d_D_item_46, d_D_item_49, ci_1, d_D_item_50, d_D_item_51, d_D_item_52, d_D_item_53, d_D_item_56, d_D_item_59, d_D_item_60, d_D_item_61, d_D_item_64, d_D_item_67, za_0, za_i, za_r, za_n, za_l, zu_s, zu_u, Nat.reduceAdd, Nat.reduceLT, Nat.reduceBEq, Nat.zero_add, Bool.false_or, Bool.or_false, Bool.true_or, Bool.or_true, Bool.false_and, Bool.and_false, Bool.true_and, Bool.and_true, true_and, and_true, true_or, or_true, eq_self, Nat.le_refl, List.getElem?_cons_succ, List.getElem?_cons_zero, List.set_cons_succ, List.set_cons_zero, zk_0, zk_1, zk_2, zk_3, zk_4, zq_1, zq_2, Option.isSome_some, Option.getD_some, Option.toList_some, Option.toList_none, List.cons_append, List.nil_append, h0, true_implies, false_implies, not_true_eq_false, not_false_eq_true, zn_10, Int32.reduceLT, Int32.reduceLE, implies_true, and_self]
    refine zJ_callV (As := []) (rest := []) C d_D_item_64 (c_L_size l D dA z M3 (A 0 1) ed' (N 0 0 + 1) (mo + 1) w1.1) k_D_41 n_L_size v_L_size w1.1 rfl rfl ⟨(Nat.le_of_ble_eq_true rfl), (Nat.le_of_ble_eq_true rfl)⟩ ⟨(Nat.le_of_ble_eq_true rfl), by show 16 + (cap + cap / 2 + 10) + 0 ≤ 1526; omega⟩ rfl (Nat.le_of_ble_eq_true rfl) ?_
    rintro v M4 ⟨rfl, rfl⟩
    refine zgo (cut := fun _ => false) 60 C lk_D hR ?_
    simp only [zs_iconst, zs_bipush, zs_iload_n, zs_aload_n, zs_iadd, zs_dup0, zs_dup1, zs_pop0, zs_pop1, zs_pop2, zs_dup2, zs_if_ne, zs_if_lt, zs_icmp_lt, zs_icmp_gt, zs_get, zs_ireturn, zx_iv, zx_is, zx_it, zx_nw, zx_na, zx_an, zx_cc, zx_gs, zx_as, zx_ae, zx_ac, zx_at, zr_seg, zr_t, zr_f, zr_tp, zr_fp, zr_lg, zr_lr, zr_lr0, zr_wi, zr_wr, zr_wn, zr_wl, zr_vo, zr_so, zr_sI, zr_sL, zr_sA, zr_sN, zr_in, zr_rd, zr_wr2, zr_kf, zr_k0, zr_k1, zr_k2, zr_k3, zr_k3n, zr_k10, zr_k11, zr_k12, zr_k13, zr_k13n, zr_ai, zr_af, zr_aw, zr_aL, zr_Lf, zr_Lw, zr_l2, zr_l20, zr_al, zr_an, zr_aq, zr_ag, zr_rfs, zr_rfn, zr_r1, zr_r2, zr_w0, zr_w1, zr_tl, zr_40, zr_41, zr_42, zr_43, d_D_item_0, d_D_item_1, zt_1_15, zo_1_15, d_D_item_4, d_D_item_5, ci_5, d_D_item_6, zt_6_10, zo_6_10, d_D_item_9, d_D_item_10, d_D_item_13, zt_13_6, zo_13_6, d_D_item_16, cb_m12, d_D_item_18, d_D_item_19, d_D_item_20, fl_D_12, d_D_item_23, d_D_item_26, cb_60, d_D_item_28, zt_28_6, zo_28_6, d_D_item_31, cb_m14, d_D_item_33, d_D_item_34, d_D_item_35, d_D_item_38, d_D_item_41, d_D_item_42, d_D_item_43, d_D_item_46, d_D_item_49, ci_1, d_D_item_50, d_D_item_51, d_D_item_52, d_D_item_53, d_D_item_56, d_D_item_59, d_D_item_60, d_D_item_61, d_D_item_64, d_D_item_67, za_0, za_i, za_r, za_n, za_l, zu_s, zu_u, Nat.reduceAdd, Nat.reduceLT, Nat.reduceBEq, Nat.zero_add, Bool.false_or, Bool.or_false, Bool.true_or, Bool.or_true, Bool.false_and, Bool.and_false, Bool.true_and, Bool.and_true, true_and, and_true, true_or, or_true, eq_self, Nat.le_refl, List.getElem?_cons_succ, List.getElem?_cons_zero, List.set_cons_succ, List.set_cons_zero, zk_0, zk_1, zk_2, zk_3, zk_4, zq_1, zq_2, Option.isSome_some, Option.getD_some, Option.toList_some, Option.toList_none, List.cons_append, List.nil_append, true_implies, false_implies, not_true_eq_false, not_false_eq_true, zn_10, Int32.reduceLT, Int32.reduceLE, implies_true, and_self]
    exact ⟨by omega, _, _, _, rl', A', rfl, g1, g2, g3, Or.inr ⟨hk, Or.inr ⟨hlt, rfl, rfl, rfl⟩⟩⟩
  · rw [zb_f hp]
    refine zgo (cut := fun _ => false) 60 C lk_D hR ?_
    simp only [zs_iconst, zs_bipush, zs_iload_n, zs_aload_n, zs_iadd, zs_dup0, zs_dup1, zs_pop0, zs_pop1, zs_pop2, zs_dup2, zs_if_ne, zs_if_lt, zs_icmp_lt, zs_icmp_gt, zs_get, zs_ireturn, zx_iv, zx_is, zx_it, zx_nw, zx_na, zx_an, zx_cc, zx_gs, zx_as, zx_ae, zx_ac, zx_at, zr_seg, zr_t, zr_f, zr_tp, zr_fp, zr_lg, zr_lr, zr_lr0, zr_wi, zr_wr, zr_wn, zr_wl, zr_vo, zr_so, zr_sI, zr_sL, zr_sA, zr_sN, zr_in, zr_rd, zr_wr2, zr_kf, zr_k0, zr_k1, zr_k2, zr_k3, zr_k3n, zr_k10, zr_k11, zr_k12, zr_k13, zr_k13n, zr_ai, zr_af, zr_aw, zr_aL, zr_Lf, zr_Lw, zr_l2, zr_l20, zr_al, zr_an, zr_aq, zr_ag, zr_rfs, zr_rfn, zr_r1, zr_r2, zr_w0, zr_w1, zr_tl, zr_40, zr_41, zr_42, zr_43, d_D_item_0, d_D_item_1, zt_1_15, zo_1_15, d_D_item_4, d_D_item_5, ci_5, d_D_item_6, zt_6_10, zo_6_10, d_D_item_9, d_D_item_10, d_D_item_13, zt_13_6, zo_13_6, d_D_item_16, cb_m12, d_D_item_18, d_D_item_19, d_D_item_20, fl_D_12, d_D_item_23, d_D_item_26, cb_60, d_D_item_28, zt_28_6, zo_28_6, d_D_item_31, cb_m14, d_D_item_33, d_D_item_34, d_D_item_35, d_D_item_38, d_D_item_41, d_D_item_42, d_D_item_43, d_D_item_46, d_D_item_49, ci_1, d_D_item_50, d_D_item_51, d_D_item_52, d_D_item_53, d_D_item_56, d_D_item_59, d_D_item_60, d_D_item_61, d_D_item_64, d_D_item_67, za_0, za_i, za_r, za_n, za_l, zu_s, zu_u, Nat.reduceAdd, Nat.reduceLT, Nat.reduceBEq, Nat.zero_add, Bool.false_or, Bool.or_false, Bool.true_or, Bool.or_true, Bool.false_and, Bool.and_false, Bool.true_and, Bool.and_true, true_and, and_true, true_or, or_true, eq_self, Nat.le_refl, List.getElem?_cons_succ, List.getElem?_cons_zero, List.set_cons_succ, List.set_cons_zero, zk_0, zk_1, zk_2, zk_3, zk_4, zq_1, zq_2, Option.isSome_some, Option.getD_some, Option.toList_some, Option.toList_none, List.cons_append, List.nil_append, hM2, Nat.zero_le, true_implies, false_implies, not_true_eq_false, not_false_eq_true, zn_10, Int32.reduceLT, Int32.reduceLE, implies_true, and_self]
    exact out (fun y => hp y.2)
