/-! join, first part, written by wip/whole/genjoin.py: a device on line again; a row done for all. -/
theorem zAt_k3 {M M' : zVw} {rl : Nat → Nat} {x r r1 r2 r3 : Nat} {e : va_E} (hk : ∀ x, rl x ≠ r1 → rl x ≠ r2 → rl x ≠ r3 → M' x = M x) (h : zAt M rl x r e) (n1 : r ≠ r1) (n2 : r ≠ r2) (n3 : r ≠ r3) : zAt M' rl x r e := ⟨by rw [hk x (by rw [h.2]; exact n1) (by rw [h.2]; exact n2) (by rw [h.2]; exact n3)]; exact h.1, h.2⟩
theorem zLr_k3 {M M' : zVw} {rl : Nat → Nat} {dA : Nat → ClassId} {a ra ed re n r1 r2 r3 : Nat} {ea : Nat → Nat} (hk : ∀ x, rl x ≠ r1 → rl x ≠ r2 → rl x ≠ r3 → M' x = M x) (h : zLr M rl dA a ra ed re n ea) (n1 : ra ≠ r1) (n2 : ra ≠ r2) (n3 : ra ≠ r3) (m1 : re ≠ r1) (m2 : re ≠ r2) (m3 : re ≠ r3) : zLr M' rl dA a ra ed re n ea := by
  obtain ⟨cap, g, mo, ⟨q1, q2⟩, q3, q4, q5, q6⟩ := h
  refine ⟨cap, g, mo, ⟨by rw [hk a (by rw [q4]; exact n1) (by rw [q4]; exact n2) (by rw [q4]; exact n3)]; exact q1, ?_⟩, q3, q4, q5, q6⟩
  rcases q2 with q2 | ⟨q7, q8, q9⟩
  · exact Or.inl q2
  · refine Or.inr ⟨?_, q8, q9⟩
    rcases q5 with q5 | q5
    · omega
    · rw [hk ed (by rw [q5]; exact m1) (by rw [q5]; exact m2) (by rw [q5]; exact m3)]; exact q7
set_option maxHeartbeats 4000000 in
set_option maxRecDepth 100000 in
theorem rep_online {M M' : zVw} {rl : Nat → Nat} {dA : Nat → ClassId} {A : Nat → Nat → Nat} {S : Nat → Nat → Nat → Int32} {N : Nat → Nat → Nat} {T : Nat → Int64} {d0 cap : Nat} {g' : Nat → Option Nat} {mo : Int32} (hr : zRep M rl dA A S N T) (hd0 : d0 < 8) (hD : M' (A 4 d0) = some (zDv 0 (T d0) (A 5 d0) (A 6 d0))) (hL : zLs M' dA (A 5 d0) (A 7 d0) 0 cap g' mo) (hcap : cap ≤ 1000) (hre : cap = 0 ∨ rl (A 7 d0) = zr 7 d0) (hk0 : ∀ x, x ≠ A 4 d0 → x ≠ A 5 d0 → x ≠ A 7 d0 → M' x = M x) (h100 : ∀ x, M x ≠ none → x ≠ dA 100) : zRep M' rl dA A (zS S 4 d0 (fun _ => 0)) (zN1 N 3 d0 0) T ∧ zFr M rl M' rl := by
  obtain ⟨h1, h2, h3, h4, h5, ⟨g6, h6, h6b⟩, h7, h8, h9, h10, h11, b1, b2, b3⟩ := hr
  have l5 : rl (A 5 d0) = zr 5 d0 := by obtain ⟨_, _, _, _, _, w, _⟩ := (h9 d0 hd0).2.2.1; exact w
  have l4 := (h9 d0 hd0).1.2
  have hk' : ∀ x, M x ≠ none → rl x ≠ zr 4 d0 → rl x ≠ zr 5 d0 → rl x ≠ zr 7 d0 → M' x = M x := fun x hx a b c0 => hk0 x (fun u => a (by rw [u]; exact l4)) (fun u => b (by rw [u]; exact l5)) (fun u => by
    rcases hre with w | w
    · rcases hL.2 with ⟨w2, _⟩ | ⟨_, _, w2⟩
      · exact h100 x hx (by rw [u]; exact w2)
      · omega
    · exact c0 (by rw [u]; exact w))
  -- cells that hold nothing may have been written only in those three places
  obtain ⟨rl0, e0⟩ : ∃ rl0 : Nat → Nat, rl0 = rl := ⟨_, rfl⟩
  have kA : ∀ {x r : Nat} {e : va_E}, zAt M rl x r e → r ≠ zr 4 d0 → r ≠ zr 5 d0 → r ≠ zr 7 d0 → zAt M' rl x r e := fun h a b c0 => ⟨by rw [hk' _ (by rw [h.1]; exact fun u => by cases u) (by rw [h.2]; exact a) (by rw [h.2]; exact b) (by rw [h.2]; exact c0)]; exact h.1, h.2⟩
  have kL : ∀ {a ra ed re n : Nat} {ea : Nat → Nat}, zLr M rl dA a ra ed re n ea → ra ≠ zr 4 d0 → ra ≠ zr 5 d0 → ra ≠ zr 7 d0 → re ≠ zr 4 d0 → re ≠ zr 5 d0 → re ≠ zr 7 d0 → zLr M' rl dA a ra ed re n ea := by
    intro a ra ed re n ea h n1 n2 n3 m1 m2 m3
    obtain ⟨cap, g, mo, ⟨q1, q2⟩, q3, q4, q5, q6⟩ := h
    refine ⟨cap, g, mo, ⟨by rw [hk' a (by rw [q1]; exact fun u => by cases u) (by rw [q4]; exact n1) (by rw [q4]; exact n2) (by rw [q4]; exact n3)]; exact q1, ?_⟩, q3, q4, q5, q6⟩
    rcases q2 with q2 | ⟨q7, q8, q9⟩
    · exact Or.inl q2
    · refine Or.inr ⟨?_, q8, q9⟩
      rcases q5 with q5 | q5
      · omega
      · rw [hk' ed (by rw [q7]; exact fun u => by cases u) (by rw [q5]; exact m1) (by rw [q5]; exact m2) (by rw [q5]; exact m3)]; exact q7
  obtain ⟨N', eN⟩ : ∃ N', N' = zN1 N 3 d0 0 := ⟨_, rfl⟩
  have nt : ∀ t i, t ≠ 3 → N' t i = N t i := fun t i x0 => by rw [eN, zN_t x0]
  have n3n : ∀ i, i ≠ d0 → N' 3 i = N 3 i := fun i hi => by rw [eN, zN_n hi]
  have n3e : N' 3 d0 = 0 := by rw [eN, zN_e]
  have s3 : ∀ t i, t ≠ 4 → zS S 4 d0 (fun _ => (0 : Int32)) t i = S t i := fun t i x0 => zS_t x0
  rw [← eN]
  refine ⟨?_, fun x hx h => ⟨hk' x hx (by unfold zr; omega) (by unfold zr; omega) (by unfold zr; omega), rfl⟩⟩
  unfold zRep
  rw [nt 0 0 (by decide), nt 1 0 (by decide), nt 2 0 (by decide), s3 3 0 (by decide)]
  have c1 := kA h1 (fun u => by have v : zr 0 0 = 0 := rfl; rw [v] at u; unfold zr at u; omega) (fun u => by have v : zr 0 0 = 0 := rfl; rw [v] at u; unfold zr at u; omega) (fun u => by have v : zr 0 0 = 0 := rfl; rw [v] at u; unfold zr at u; omega)
  have c2 := kL h2 (by unfold zr; omega) (by unfold zr; omega) (by unfold zr; omega) (by unfold zr; omega) (by unfold zr; omega) (by unfold zr; omega)
  have c3 := kL h3 (by unfold zr; omega) (by unfold zr; omega) (by unfold zr; omega) (by unfold zr; omega) (by unfold zr; omega) (by unfold zr; omega)
  refine ⟨c1, c2, c3, kA h4 (by unfold zr; omega) (by unfold zr; omega) (by unfold zr; omega), kA h5 (by unfold zr; omega) (by unfold zr; omega) (by unfold zr; omega), ⟨g6, kA h6 (by unfold zr; omega) (by unfold zr; omega) (by unfold zr; omega), h6b⟩, fun j hj => ?_, fun i hi => ?_, fun d hd => ?_, fun d j hd hj => ?_, fun d j hd hj => ?_, b1, b2, b3⟩
  · rw [s3 0 j (by decide), s3 1 j (by decide)]
    exact ⟨kA (h7 j hj).1 (by unfold zr; omega) (by unfold zr; omega) (by unfold zr; omega), kA (h7 j hj).2.1 (by unfold zr; omega) (by unfold zr; omega) (by unfold zr; omega), (h7 j hj).2.2⟩
  · rw [s3 2 i (by decide)]
    exact kA (h8 i hi) (by unfold zr; omega) (by unfold zr; omega) (by unfold zr; omega)
  · rw [nt 4 d (by decide)]
    have w := h9 d hd
    by_cases e : d = d0
    · subst e
      rw [zS_e, n3e]
      exact ⟨⟨hD, l4⟩, Or.inl rfl, ⟨cap, g', mo, hL, hcap, l5, hre, fun i hi => absurd hi (by omega)⟩, kL w.2.2.2.1 (by unfold zr; omega) (by unfold zr; omega) (by unfold zr; omega) (by unfold zr; omega) (by unfold zr; omega) (by unfold zr; omega), by omega, w.2.2.2.2.2⟩
    · rw [zS_n e, n3n d e]
      exact ⟨kA w.1 (by unfold zr; omega) (by unfold zr; omega) (by unfold zr; omega), w.2.1, kL w.2.2.1 (by unfold zr; omega) (by unfold zr; omega) (by unfold zr; omega) (by unfold zr; omega) (by unfold zr; omega) (by unfold zr; omega), kL w.2.2.2.1 (by unfold zr; omega) (by unfold zr; omega) (by unfold zr; omega) (by unfold zr; omega) (by unfold zr; omega) (by unfold zr; omega), w.2.2.2.2⟩
  · by_cases e : d = d0
    · subst e
      rw [n3e] at hj
      omega
    · rw [n3n d e] at hj
      have w := h10 d j hd hj
      have w9 := (h9 d hd).2.2.2.2
      rw [nt 5 _ (by decide), s3 5 _ (by decide)]
      exact ⟨kA w.1 (by unfold zr; omega) (by unfold zr; omega) (by unfold zr; omega), w.2⟩
  · rw [nt 4 d (by decide)] at hj
    have w := h11 d j hd hj
    have w9 := (h9 d hd).2.2.2.2
    rw [s3 6 _ (by decide)]
    exact ⟨kA w.1 (by unfold zr; omega) (by unfold zr; omega) (by unfold zr; omega), w.2⟩
theorem zJ_h100 {p : Program} {l : Launch} {e : Env} {R : Room} {s : State} {m : MethodId} {args : Array Value} {below : List Frame} {meth : Method} {c : Code} {Q : State → Prop} {own : String} {cc : ByteArray} {nL z : Nat} {D : va_G} {dA : Nat → ClassId} {ini : Bool} {pc k n : Nat} {loc : List (Nat × Value)} {M : zVw} {st : List Value} (C : zC p s m args meth c own cc nL z D dA ini) (kk : (∀ x, M x ≠ none → x ≠ dA 100) → zJ p l e R s m args below meth c Q nL z D pc loc st M k n) : zJ p l e R s m args below meth c Q nL z D pc loc st M k n :=
  fun H locs ls hv hz hS hl => kk (fun x hx q => va_T.out C.2.2.2.2.2.2.2.2.2.2.1 (by
    rw [← q]
    cases h : M x with
    | none => exact absurd h hx
    | some e0 => exact hz x e0 h)) H locs ls hv hz hS hl
/-- a row done for all: q its number -/
abbrev zDa (S : Nat → Nat → Nat → Int32) (N : Nat → Nat → Nat) (q : Nat) : Prop := fAllow (S 1 (N 5 q)) (S 5 q 2) (S 5 q 1) (S 5 q 5)
def zDs (S : Nat → Nat → Nat → Int32) (N : Nat → Nat → Nat) (q : Nat) : Nat → Nat → Nat → Int32 := if zDa S N q then zS S 1 (N 5 q) (fChange (S 1 (N 5 q)) (S 5 q)) else if N 1 0 < 512 then zS S 2 (N 1 0) (fun k => if k = 0 then nI (N 5 q + 1) else if k = 1 then S 1 (N 5 q) 10 else S 5 q 1) else S
def zDn (S : Nat → Nat → Nat → Int32) (N : Nat → Nat → Nat) (q : Nat) : Nat → Nat → Nat := if zDa S N q then N else if N 1 0 < 512 then zN1 N 1 0 (N 1 0 + 1) else N
set_option maxHeartbeats 4000000 in
set_option maxRecDepth 100000 in
theorem c_D_doForAll (l : Launch) (D : va_G) (dA : Nat → ClassId) (z : Nat) (M : zVw) (rl : Nat → Nat) (A : Nat → Nat → Nat) (S : Nat → Nat → Nat → Int32) (N : Nat → Nat → Nat) (T : Nat → Int64) (d i : Nat) (hr : zRep M rl dA A S N T) (d8 : d < 8) (hi : i < N 3 d) : zMet l y_D_doForAll b_D_doForAll 3 none 7 171 (2 * (zDn S N (100 * d + i) 1 0 - N 1 0)) (1513 * (zDn S N (100 * d + i) 1 0 - N 1 0)) D dA z [.ref (A 0 0), .ref (A 9 (100 * d + i))] M (fun v M' => v = none ∧ ∃ rl' A', zRep M' rl' dA A' (zDs S N (100 * d + i)) (zDn S N (100 * d + i)) T ∧ zFr M rl M' rl' ∧ (∀ t i, t ≠ 0 → t ≠ 3 → A' t i = A t i) ∧ A' 0 0 = A 0 0) := by
  have hM2 := hr.1.1
  unfold zDo at hM2
  have hR9 := hr.2.2.2.2.2.2.2.2.2.1 d i d8 hi
  have hact := hR9.1.1
  have hactu := hact
  unfold aA at hactu
  obtain ⟨q, eq⟩ : ∃ q, q = 100 * d + i := ⟨_, rfl⟩
  rw [← eq] at hact hactu hR9 ⊢
  obtain ⟨j, ej⟩ : ∃ j, j = N 5 q := ⟨_, rfl⟩
  rw [← ej] at hact hactu hR9
  have hj : j < N 0 0 := hR9.2
  have h7 := hr.2.2.2.2.2.2.1 j hj
  have a1 := h7.1.1
  have a2 := h7.2.1.1
  have a1u := a1
  unfold iA at a1u
  have a2u := a2
  unfold fA at a2u
  have l2 : rl (A 2 j) < 5000000 := by rw [h7.2.1.2]; have := hr.2.2.2.2.2.2.2.2.2.2.2.1; unfold zr; omega
  refine z_of 0 false (by decide) (fun h => by first | rfl | cases h) (Nat.le_of_ble_eq_true rfl) trivial ?_
  intro p e s m args below meth c C hR
  refine zgo (cut := fun _ => false) 60 C lk_D hR ?_
  simp only [zs_sipush, zs_aload_n, zs_astore_n0, zs_astore_n1, zs_dup0, zs_dup1, zs_pop0, zs_pop1, zs_pop2, zs_dup2, zs_if_eq, zs_icmp_ge, zs_goto, zs_get, zs_return, zx_iv, zx_is, zx_it, zx_nw, zx_na, zx_an, zx_cc, zx_gs, zx_as, zx_ae, zx_ac, zx_at, zr_seg, zr_t, zr_f, zr_tp, zr_fp, zr_lg, zr_lr, zr_lr0, zr_wi, zr_wr, zr_wn, zr_wl, zr_vo, zr_so, zr_sI, zr_sL, zr_sA, zr_sN, zr_in, zr_rd, zr_wr2, zr_kf, zr_k0, zr_k1, zr_k2, zr_k3, zr_k3n, zr_k10, zr_k11, zr_k12, zr_k13, zr_k13n, zr_ai, zr_af, zr_aw, zr_aL, zr_Lf, zr_Lw, zr_l2, zr_l20, zr_al, zr_an, zr_aq, zr_ag, zr_rfs, zr_rfn, zr_r1, zr_r2, zr_w0, zr_w1, zr_tl, zr_40, zr_41, zr_42, zr_43, d_D_doForAll_0, d_D_doForAll_1, fl_D_166, d_D_doForAll_4, fl_D_73, d_D_doForAll_7, d_D_doForAll_8, d_D_doForAll_9, d_D_doForAll_10, fl_D_169, d_D_doForAll_13, d_D_doForAll_14, fl_D_172, d_D_doForAll_17, d_D_doForAll_18, fl_D_175, d_D_doForAll_21, d_D_doForAll_24, zt_24_11, zo_24_11, d_D_doForAll_27, d_D_doForAll_28, d_D_doForAll_29, d_D_doForAll_32, zt_32_46, zo_32_46, d_D_doForAll_35, d_D_doForAll_36, fl_D_16, d_D_doForAll_39, d_D_doForAll_42, cs_512, d_D_doForAll_45, zt_45_33, zo_45_33, d_D_doForAll_48, d_D_doForAll_49, d_D_doForAll_52, d_D_doForAll_55, d_D_doForAll_56, d_D_doForAll_57, d_D_doForAll_60, fl_D_178, d_D_doForAll_63, d_D_doForAll_64, fl_D_181, d_D_doForAll_67, d_D_doForAll_68, d_D_doForAll_71, d_D_doForAll_74, d_D_doForAll_77, d_D_doForAll_78, za_0, za_i, za_r, za_n, za_l, zu_s, zu_u, Nat.reduceAdd, Nat.reduceLT, Nat.reduceBEq, Nat.zero_add, Bool.false_or, Bool.or_false, Bool.true_or, Bool.or_true, Bool.false_and, Bool.and_false, Bool.true_and, Bool.and_true, true_and, and_true, true_or, or_true, eq_self, Nat.le_refl, List.getElem?_cons_succ, List.getElem?_cons_zero, List.set_cons_succ, List.set_cons_zero, zk_0, zk_1, zk_2, zk_3, zk_4, zq_1, zq_2, Option.isSome_some, Option.getD_some, Option.toList_some, Option.toList_none, List.cons_append, List.nil_append, hactu, a1u, true_implies, false_implies, not_true_eq_false, not_false_eq_true, zn_10, Int32.reduceLT, Int32.reduceLE, implies_true, and_self]
  refine zJ_callV (As := [.int (S 5 q 2), .int (S 5 q 1), .int (S 5 q 5)]) (rest := []) C d_D_doForAll_21 (c_F_allow l D dA z M (A 2 j) (S 1 j) (S 5 q 2) (S 5 q 1) (S 5 q 5) a2) k_D_88 n_F_allow v_F_allow a2 rfl rfl ⟨(Nat.le_of_ble_eq_true rfl), (Nat.le_of_ble_eq_true rfl)⟩ ⟨by show 0 + 0 ≤ _; omega, by show 0 + 0 ≤ _; omega⟩ rfl (Nat.le_of_ble_eq_true rfl) ?_
  rintro v M9 ⟨e0, rfl⟩; have e0 := e0.symm; subst e0
  by_cases hal : zDa S N q
  · have hal' : fAllow (S 1 j) (S 5 q 2) (S 5 q 1) (S 5 q 5) := by rw [ej]; exact hal
    have e1 : zDs S N q = zS S 1 j (fChange (S 1 j) (S 5 q)) := by unfold zDs; rw [if_pos hal, ej]
    have e2 : zDn S N q = N := by unfold zDn; rw [if_pos hal]
    rw [zb_t hal']
    refine zgo (cut := fun _ => false) 60 C lk_D hR ?_
    simp only [zs_sipush, zs_aload_n, zs_astore_n0, zs_astore_n1, zs_dup0, zs_dup1, zs_pop0, zs_pop1, zs_pop2, zs_dup2, zs_if_eq, zs_icmp_ge, zs_goto, zs_get, zs_return, zx_iv, zx_is, zx_it, zx_nw, zx_na, zx_an, zx_cc, zx_gs, zx_as, zx_ae, zx_ac, zx_at, zr_seg, zr_t, zr_f, zr_tp, zr_fp, zr_lg, zr_lr, zr_lr0, zr_wi, zr_wr, zr_wn, zr_wl, zr_vo, zr_so, zr_sI, zr_sL, zr_sA, zr_sN, zr_in, zr_rd, zr_wr2, zr_kf, zr_k0, zr_k1, zr_k2, zr_k3, zr_k3n, zr_k10, zr_k11, zr_k12, zr_k13, zr_k13n, zr_ai, zr_af, zr_aw, zr_aL, zr_Lf, zr_Lw, zr_l2, zr_l20, zr_al, zr_an, zr_aq, zr_ag, zr_rfs, zr_rfn, zr_r1, zr_r2, zr_w0, zr_w1, zr_tl, zr_40, zr_41, zr_42, zr_43, d_D_doForAll_0, d_D_doForAll_1, fl_D_166, d_D_doForAll_4, fl_D_73, d_D_doForAll_7, d_D_doForAll_8, d_D_doForAll_9, d_D_doForAll_10, fl_D_169, d_D_doForAll_13, d_D_doForAll_14, fl_D_172, d_D_doForAll_17, d_D_doForAll_18, fl_D_175, d_D_doForAll_21, d_D_doForAll_24, zt_24_11, zo_24_11, d_D_doForAll_27, d_D_doForAll_28, d_D_doForAll_29, d_D_doForAll_32, zt_32_46, zo_32_46, d_D_doForAll_35, d_D_doForAll_36, fl_D_16, d_D_doForAll_39, d_D_doForAll_42, cs_512, d_D_doForAll_45, zt_45_33, zo_45_33, d_D_doForAll_48, d_D_doForAll_49, d_D_doForAll_52, d_D_doForAll_55, d_D_doForAll_56, d_D_doForAll_57, d_D_doForAll_60, fl_D_178, d_D_doForAll_63, d_D_doForAll_64, fl_D_181, d_D_doForAll_67, d_D_doForAll_68, d_D_doForAll_71, d_D_doForAll_74, d_D_doForAll_77, d_D_doForAll_78, za_0, za_i, za_r, za_n, za_l, zu_s, zu_u, Nat.reduceAdd, Nat.reduceLT, Nat.reduceBEq, Nat.zero_add, Bool.false_or, Bool.or_false, Bool.true_or, Bool.or_true, Bool.false_and, Bool.and_false, Bool.true_and, Bool.and_true, true_and, and_true, true_or, or_true, eq_self, Nat.le_refl, List.getElem?_cons_succ, List.getElem?_cons_zero, List.set_cons_succ, List.set_cons_zero, zk_0, zk_1, zk_2, zk_3, zk_4, zq_1, zq_2, Option.isSome_some, Option.getD_some, Option.toList_some, Option.toList_none, List.cons_append, List.nil_append, true_implies, false_implies, not_true_eq_false, not_false_eq_true, zn_10, Int32.reduceLT, Int32.reduceLE, implies_true, and_self]
    refine zJ_callV (As := [.ref (A 9 q)]) (rest := []) C d_D_doForAll_29 (c_F_change l D dA z M (A 2 j) (A 9 q) (A 1 j) (S 1 j) (S 5 q) a2 hact) k_D_105 n_F_change v_F_change a2 rfl rfl ⟨(Nat.le_of_ble_eq_true rfl), (Nat.le_of_ble_eq_true rfl)⟩ ⟨by show 0 + 0 ≤ _; omega, by show 0 + 0 ≤ _; omega⟩ rfl (Nat.le_of_ble_eq_true rfl) ?_
    rintro v M9 ⟨rfl, rfl⟩
    refine zgo (cut := fun _ => false) 60 C lk_D hR ?_
    simp only [zs_sipush, zs_aload_n, zs_astore_n0, zs_astore_n1, zs_dup0, zs_dup1, zs_pop0, zs_pop1, zs_pop2, zs_dup2, zs_if_eq, zs_icmp_ge, zs_goto, zs_get, zs_return, zx_iv, zx_is, zx_it, zx_nw, zx_na, zx_an, zx_cc, zx_gs, zx_as, zx_ae, zx_ac, zx_at, zr_seg, zr_t, zr_f, zr_tp, zr_fp, zr_lg, zr_lr, zr_lr0, zr_wi, zr_wr, zr_wn, zr_wl, zr_vo, zr_so, zr_sI, zr_sL, zr_sA, zr_sN, zr_in, zr_rd, zr_wr2, zr_kf, zr_k0, zr_k1, zr_k2, zr_k3, zr_k3n, zr_k10, zr_k11, zr_k12, zr_k13, zr_k13n, zr_ai, zr_af, zr_aw, zr_aL, zr_Lf, zr_Lw, zr_l2, zr_l20, zr_al, zr_an, zr_aq, zr_ag, zr_rfs, zr_rfn, zr_r1, zr_r2, zr_w0, zr_w1, zr_tl, zr_40, zr_41, zr_42, zr_43, d_D_doForAll_0, d_D_doForAll_1, fl_D_166, d_D_doForAll_4, fl_D_73, d_D_doForAll_7, d_D_doForAll_8, d_D_doForAll_9, d_D_doForAll_10, fl_D_169, d_D_doForAll_13, d_D_doForAll_14, fl_D_172, d_D_doForAll_17, d_D_doForAll_18, fl_D_175, d_D_doForAll_21, d_D_doForAll_24, zt_24_11, zo_24_11, d_D_doForAll_27, d_D_doForAll_28, d_D_doForAll_29, d_D_doForAll_32, zt_32_46, zo_32_46, d_D_doForAll_35, d_D_doForAll_36, fl_D_16, d_D_doForAll_39, d_D_doForAll_42, cs_512, d_D_doForAll_45, zt_45_33, zo_45_33, d_D_doForAll_48, d_D_doForAll_49, d_D_doForAll_52, d_D_doForAll_55, d_D_doForAll_56, d_D_doForAll_57, d_D_doForAll_60, fl_D_178, d_D_doForAll_63, d_D_doForAll_64, fl_D_181, d_D_doForAll_67, d_D_doForAll_68, d_D_doForAll_71, d_D_doForAll_74, d_D_doForAll_77, d_D_doForAll_78, za_0, za_i, za_r, za_n, za_l, zu_s, zu_u, Nat.reduceAdd, Nat.reduceLT, Nat.reduceBEq, Nat.zero_add, Bool.false_or, Bool.or_false, Bool.true_or, Bool.or_true, Bool.false_and, Bool.and_false, Bool.true_and, Bool.and_true, true_and, and_true, true_or, or_true, eq_self, Nat.le_refl, List.getElem?_cons_succ, List.getElem?_cons_zero, List.set_cons_succ, List.set_cons_zero, zk_0, zk_1, zk_2, zk_3, zk_4, zq_1, zq_2, Option.isSome_some, Option.getD_some, Option.toList_some, Option.toList_none, List.cons_append, List.nil_append, Nat.zero_le, true_implies, false_implies, not_true_eq_false, not_false_eq_true, zn_10, Int32.reduceLT, Int32.reduceLE, implies_true, and_self]
    exact ⟨rl, A, by rw [e1, e2]; exact rep_facts hr hj (fChange_b h7.2.2), zFr_u l2, fun _ _ _ _ => rfl, rfl⟩
  · have hal' : ¬ fAllow (S 1 j) (S 5 q 2) (S 5 q 1) (S 5 q 5) := by rw [ej]; exact hal
    rw [zb_f hal']
    obtain ⟨cap, g, mo, q1, q2, q3, q4, q5⟩ := hr.2.2.1
    have b2 := hr.2.2.2.2.2.2.2.2.2.2.2.2.1
    refine zgo (cut := fun _ => false) 60 C lk_D hR ?_
    simp only [zs_sipush, zs_aload_n, zs_astore_n0, zs_astore_n1, zs_dup0, zs_dup1, zs_pop0, zs_pop1, zs_pop2, zs_dup2, zs_if_eq, zs_icmp_ge, zs_goto, zs_get, zs_return, zx_iv, zx_is, zx_it, zx_nw, zx_na, zx_an, zx_cc, zx_gs, zx_as, zx_ae, zx_ac, zx_at, zr_seg, zr_t, zr_f, zr_tp, zr_fp, zr_lg, zr_lr, zr_lr0, zr_wi, zr_wr, zr_wn, zr_wl, zr_vo, zr_so, zr_sI, zr_sL, zr_sA, zr_sN, zr_in, zr_rd, zr_wr2, zr_kf, zr_k0, zr_k1, zr_k2, zr_k3, zr_k3n, zr_k10, zr_k11, zr_k12, zr_k13, zr_k13n, zr_ai, zr_af, zr_aw, zr_aL, zr_Lf, zr_Lw, zr_l2, zr_l20, zr_al, zr_an, zr_aq, zr_ag, zr_rfs, zr_rfn, zr_r1, zr_r2, zr_w0, zr_w1, zr_tl, zr_40, zr_41, zr_42, zr_43, d_D_doForAll_0, d_D_doForAll_1, fl_D_166, d_D_doForAll_4, fl_D_73, d_D_doForAll_7, d_D_doForAll_8, d_D_doForAll_9, d_D_doForAll_10, fl_D_169, d_D_doForAll_13, d_D_doForAll_14, fl_D_172, d_D_doForAll_17, d_D_doForAll_18, fl_D_175, d_D_doForAll_21, d_D_doForAll_24, zt_24_11, zo_24_11, d_D_doForAll_27, d_D_doForAll_28, d_D_doForAll_29, d_D_doForAll_32, zt_32_46, zo_32_46, d_D_doForAll_35, d_D_doForAll_36, fl_D_16, d_D_doForAll_39, d_D_doForAll_42, cs_512, d_D_doForAll_45, zt_45_33, zo_45_33, d_D_doForAll_48, d_D_doForAll_49, d_D_doForAll_52, d_D_doForAll_55, d_D_doForAll_56, d_D_doForAll_57, d_D_doForAll_60, fl_D_178, d_D_doForAll_63, d_D_doForAll_64, fl_D_181, d_D_doForAll_67, d_D_doForAll_68, d_D_doForAll_71, d_D_doForAll_74, d_D_doForAll_77, d_D_doForAll_78, za_0, za_i, za_r, za_n, za_l, zu_s, zu_u, Nat.reduceAdd, Nat.reduceLT, Nat.reduceBEq, Nat.zero_add, Bool.false_or, Bool.or_false, Bool.true_or, Bool.or_true, Bool.false_and, Bool.and_false, Bool.true_and, Bool.and_true, true_and, and_true, true_or, or_true, eq_self, Nat.le_refl, List.getElem?_cons_succ, List.getElem?_cons_zero, List.set_cons_succ, List.set_cons_zero, zk_0, zk_1, zk_2, zk_3, zk_4, zq_1, zq_2, Option.isSome_some, Option.getD_some, Option.toList_some, Option.toList_none, List.cons_append, List.nil_append, hM2, true_implies, false_implies, not_true_eq_false, not_false_eq_true, zn_10, Int32.reduceLT, Int32.reduceLE, implies_true, and_self]
    refine zJ_callV (As := []) (rest := []) C d_D_doForAll_39 (c_L_size l D dA z M (A 0 2) (A 0 7) (N 1 0) mo q1.1) k_D_41 n_L_size v_L_size q1.1 rfl rfl ⟨(Nat.le_of_ble_eq_true rfl), (Nat.le_of_ble_eq_true rfl)⟩ ⟨by show 0 + 0 ≤ _; omega, by show 0 + 0 ≤ _; omega⟩ rfl (Nat.le_of_ble_eq_true rfl) ?_
    rintro v M9 ⟨e0, rfl⟩; have e0 := e0.symm; subst e0
    refine zgo (cut := fun _ => false) 60 C lk_D hR ?_
    simp only [zs_sipush, zs_aload_n, zs_astore_n0, zs_astore_n1, zs_dup0, zs_dup1, zs_pop0, zs_pop1, zs_pop2, zs_dup2, zs_if_eq, zs_icmp_ge, zs_goto, zs_get, zs_return, zx_iv, zx_is, zx_it, zx_nw, zx_na, zx_an, zx_cc, zx_gs, zx_as, zx_ae, zx_ac, zx_at, zr_seg, zr_t, zr_f, zr_tp, zr_fp, zr_lg, zr_lr, zr_lr0, zr_wi, zr_wr, zr_wn, zr_wl, zr_vo, zr_so, zr_sI, zr_sL, zr_sA, zr_sN, zr_in, zr_rd, zr_wr2, zr_kf, zr_k0, zr_k1, zr_k2, zr_k3, zr_k3n, zr_k10, zr_k11, zr_k12, zr_k13, zr_k13n, zr_ai, zr_af, zr_aw, zr_aL, zr_Lf, zr_Lw, zr_l2, zr_l20, zr_al, zr_an, zr_aq, zr_ag, zr_rfs, zr_rfn, zr_r1, zr_r2, zr_w0, zr_w1, zr_tl, zr_40, zr_41, zr_42, zr_43, d_D_doForAll_0, d_D_doForAll_1, fl_D_166, d_D_doForAll_4, fl_D_73, d_D_doForAll_7, d_D_doForAll_8, d_D_doForAll_9, d_D_doForAll_10, fl_D_169, d_D_doForAll_13, d_D_doForAll_14, fl_D_172, d_D_doForAll_17, d_D_doForAll_18, fl_D_175, d_D_doForAll_21, d_D_doForAll_24, zt_24_11, zo_24_11, d_D_doForAll_27, d_D_doForAll_28, d_D_doForAll_29, d_D_doForAll_32, zt_32_46, zo_32_46, d_D_doForAll_35, d_D_doForAll_36, fl_D_16, d_D_doForAll_39, d_D_doForAll_42, cs_512, d_D_doForAll_45, zt_45_33, zo_45_33, d_D_doForAll_48, d_D_doForAll_49, d_D_doForAll_52, d_D_doForAll_55, d_D_doForAll_56, d_D_doForAll_57, d_D_doForAll_60, fl_D_178, d_D_doForAll_63, d_D_doForAll_64, fl_D_181, d_D_doForAll_67, d_D_doForAll_68, d_D_doForAll_71, d_D_doForAll_74, d_D_doForAll_77, d_D_doForAll_78, za_0, za_i, za_r, za_n, za_l, zu_s, zu_u, Nat.reduceAdd, Nat.reduceLT, Nat.reduceBEq, Nat.zero_add, Bool.false_or, Bool.or_false, Bool.true_or, Bool.or_true, Bool.false_and, Bool.and_false, Bool.true_and, Bool.and_true, true_and, and_true, true_or, or_true, eq_self, Nat.le_refl, List.getElem?_cons_succ, List.getElem?_cons_zero, List.set_cons_succ, List.set_cons_zero, zk_0, zk_1, zk_2, zk_3, zk_4, zq_1, zq_2, Option.isSome_some, Option.getD_some, Option.toList_some, Option.toList_none, List.cons_append, List.nil_append, hM2, Nat.zero_le, true_implies, false_implies, not_true_eq_false, not_false_eq_true, zn_10, Int32.reduceLT, Int32.reduceLE, implies_true, and_self]
    refine ⟨fun w => ?_, fun w => ?_⟩
    · have hge : ¬ N 1 0 < 512 := fun u => absurd w (nI_ge u (by decide))
      have e1 : zDs S N q = S := by unfold zDs; rw [if_neg hal, if_neg hge]
      have e2 : zDn S N q = N := by unfold zDn; rw [if_neg hal, if_neg hge]
      exact ⟨rl, A, by rw [e1, e2]; exact hr, zFr_r _ _, fun _ _ _ _ => rfl, rfl⟩
    · have hlt : N 1 0 < 512 := by
        rcases Nat.lt_or_ge (N 1 0) 512 with u | u
        · exact u
        · exact absurd (nI_le u (by omega)) w
      have e1 : zDs S N q = zS S 2 (N 1 0) (fun k => if k = 0 then nI (j + 1) else if k = 1 then S 1 j 10 else S 5 q 1) := by unfold zDs; rw [if_neg hal, if_pos hlt, ej]
      have e2 : zDn S N q = zN1 N 1 0 (N 1 0 + 1) := by unfold zDn; rw [if_neg hal, if_pos hlt]
      have ec : zDn S N q 1 0 - N 1 0 = 1 := by rw [e2, zN_e]; omega
      rw [e1, e2] at hR ⊢
      rw [zN_e, show N 1 0 + 1 - N 1 0 = 1 by omega] at hR ⊢
      have mL : M (A 0 2) ≠ none := by rw [q1.1]; exact fun u => by cases u
      refine zJ_new [.int 0, .int 0, .int 0] C q_C d_D_doForAll_52 (by decide +kernel) (by decide) ⟨(Nat.le_of_ble_eq_true rfl), (Nat.le_of_ble_eq_true rfl)⟩ (fun o f1 hz1 => ?_)
      have n9 : A 9 q ≠ o := fun u => by rw [← u, hact] at f1; cases f1
      have n1 : A 1 j ≠ o := fun u => by rw [← u, a1] at f1; cases f1
      have n2 : A 2 j ≠ o := fun u => by rw [← u, a2] at f1; cases f1
      refine zgo (cut := fun _ => false) 60 C lk_D hR ?_
      simp only [zs_sipush, zs_aload_n, zs_astore_n0, zs_astore_n1, zs_dup0, zs_dup1, zs_pop0, zs_pop1, zs_pop2, zs_dup2, zs_if_eq, zs_icmp_ge, zs_goto, zs_get, zs_return, zx_iv, zx_is, zx_it, zx_nw, zx_na, zx_an, zx_cc, zx_gs, zx_as, zx_ae, zx_ac, zx_at, zr_seg, zr_t, zr_f, zr_tp, zr_fp, zr_lg, zr_lr, zr_lr0, zr_wi, zr_wr, zr_wn, zr_wl, zr_vo, zr_so, zr_sI, zr_sL, zr_sA, zr_sN, zr_in, zr_rd, zr_wr2, zr_kf, zr_k0, zr_k1, zr_k2, zr_k3, zr_k3n, zr_k10, zr_k11, zr_k12, zr_k13, zr_k13n, zr_ai, zr_af, zr_aw, zr_aL, zr_Lf, zr_Lw, zr_l2, zr_l20, zr_al, zr_an, zr_aq, zr_ag, zr_rfs, zr_rfn, zr_r1, zr_r2, zr_w0, zr_w1, zr_tl, zr_40, zr_41, zr_42, zr_43, d_D_doForAll_0, d_D_doForAll_1, fl_D_166, d_D_doForAll_4, fl_D_73, d_D_doForAll_7, d_D_doForAll_8, d_D_doForAll_9, d_D_doForAll_10, fl_D_169, d_D_doForAll_13, d_D_doForAll_14, fl_D_172, d_D_doForAll_17, d_D_doForAll_18, fl_D_175, d_D_doForAll_21, d_D_doForAll_24, zt_24_11, zo_24_11, d_D_doForAll_27, d_D_doForAll_28, d_D_doForAll_29, d_D_doForAll_32, zt_32_46, zo_32_46, d_D_doForAll_35, d_D_doForAll_36, fl_D_16, d_D_doForAll_39, d_D_doForAll_42, cs_512, d_D_doForAll_45, zt_45_33, zo_45_33, d_D_doForAll_48, d_D_doForAll_49, d_D_doForAll_52, d_D_doForAll_55, d_D_doForAll_56, d_D_doForAll_57, d_D_doForAll_60, fl_D_178, d_D_doForAll_63, d_D_doForAll_64, fl_D_181, d_D_doForAll_67, d_D_doForAll_68, d_D_doForAll_71, d_D_doForAll_74, d_D_doForAll_77, d_D_doForAll_78, za_0, za_i, za_r, za_n, za_l, zu_s, zu_u, Nat.reduceAdd, Nat.reduceLT, Nat.reduceBEq, Nat.zero_add, Bool.false_or, Bool.or_false, Bool.true_or, Bool.or_true, Bool.false_and, Bool.and_false, Bool.true_and, Bool.and_true, true_and, and_true, true_or, or_true, eq_self, Nat.le_refl, List.getElem?_cons_succ, List.getElem?_cons_zero, List.set_cons_succ, List.set_cons_zero, zk_0, zk_1, zk_2, zk_3, zk_4, zq_1, zq_2, Option.isSome_some, Option.getD_some, Option.toList_some, Option.toList_none, List.cons_append, List.nil_append, hactu, a1u, a2u, zu_n n9, zu_n n1, zu_n n2, true_implies, false_implies, not_true_eq_false, not_false_eq_true, zn_10, Int32.reduceLT, Int32.reduceLE, implies_true, and_self]
      refine zJ_callI (As := [.int (nI (j + 1)), .int (S 1 j 10), .int (S 5 q 1)]) (rest := [.ref o, .ref (A 0 2)]) C d_D_doForAll_71 (c_C_init l D dA z _ o (nI (j + 1)) (S 1 j 10) (S 5 q 1) (zu_s _ _ _)) k_D_182 n_C_init rfl ⟨(Nat.le_of_ble_eq_true rfl), (Nat.le_of_ble_eq_true rfl)⟩ ⟨(Nat.le_of_ble_eq_true rfl), (Nat.le_of_ble_eq_true rfl)⟩ rfl (Nat.le_of_ble_eq_true rfl) ?_
      rintro v M9 ⟨rfl, rfl⟩
      rw [zu_u]
      refine zgo (cut := fun _ => false) 60 C lk_D hR ?_
      simp only [zs_sipush, zs_aload_n, zs_astore_n0, zs_astore_n1, zs_dup0, zs_dup1, zs_pop0, zs_pop1, zs_pop2, zs_dup2, zs_if_eq, zs_icmp_ge, zs_goto, zs_get, zs_return, zx_iv, zx_is, zx_it, zx_nw, zx_na, zx_an, zx_cc, zx_gs, zx_as, zx_ae, zx_ac, zx_at, zr_seg, zr_t, zr_f, zr_tp, zr_fp, zr_lg, zr_lr, zr_lr0, zr_wi, zr_wr, zr_wn, zr_wl, zr_vo, zr_so, zr_sI, zr_sL, zr_sA, zr_sN, zr_in, zr_rd, zr_wr2, zr_kf, zr_k0, zr_k1, zr_k2, zr_k3, zr_k3n, zr_k10, zr_k11, zr_k12, zr_k13, zr_k13n, zr_ai, zr_af, zr_aw, zr_aL, zr_Lf, zr_Lw, zr_l2, zr_l20, zr_al, zr_an, zr_aq, zr_ag, zr_rfs, zr_rfn, zr_r1, zr_r2, zr_w0, zr_w1, zr_tl, zr_40, zr_41, zr_42, zr_43, d_D_doForAll_0, d_D_doForAll_1, fl_D_166, d_D_doForAll_4, fl_D_73, d_D_doForAll_7, d_D_doForAll_8, d_D_doForAll_9, d_D_doForAll_10, fl_D_169, d_D_doForAll_13, d_D_doForAll_14, fl_D_172, d_D_doForAll_17, d_D_doForAll_18, fl_D_175, d_D_doForAll_21, d_D_doForAll_24, zt_24_11, zo_24_11, d_D_doForAll_27, d_D_doForAll_28, d_D_doForAll_29, d_D_doForAll_32, zt_32_46, zo_32_46, d_D_doForAll_35, d_D_doForAll_36, fl_D_16, d_D_doForAll_39, d_D_doForAll_42, cs_512, d_D_doForAll_45, zt_45_33, zo_45_33, d_D_doForAll_48, d_D_doForAll_49, d_D_doForAll_52, d_D_doForAll_55, d_D_doForAll_56, d_D_doForAll_57, d_D_doForAll_60, fl_D_178, d_D_doForAll_63, d_D_doForAll_64, fl_D_181, d_D_doForAll_67, d_D_doForAll_68, d_D_doForAll_71, d_D_doForAll_74, d_D_doForAll_77, d_D_doForAll_78, za_0, za_i, za_r, za_n, za_l, zu_s, zu_u, Nat.reduceAdd, Nat.reduceLT, Nat.reduceBEq, Nat.zero_add, Bool.false_or, Bool.or_false, Bool.true_or, Bool.or_true, Bool.false_and, Bool.and_false, Bool.true_and, Bool.and_true, true_and, and_true, true_or, or_true, eq_self, Nat.le_refl, List.getElem?_cons_succ, List.getElem?_cons_zero, List.set_cons_succ, List.set_cons_zero, zk_0, zk_1, zk_2, zk_3, zk_4, zq_1, zq_2, Option.isSome_some, Option.getD_some, Option.toList_some, Option.toList_none, List.cons_append, List.nil_append, true_implies, false_implies, not_true_eq_false, not_false_eq_true, zn_10, Int32.reduceLT, Int32.reduceLE, implies_true, and_self]
      have hk4 := zu_x (e := (.inr (2, [.int (nI (j + 1)), .int (S 1 j 10), .int (S 5 q 1)]) : va_E)) f1
      have hr5 := rep_ext hr hk4
      obtain ⟨cap, g, mo, q1, q2, q3, q4, q5⟩ := hr5.2.2.1
      refine zJ_callV (As := [.ref o]) (rest := []) C d_D_doForAll_74 (c_L_add1 l D dA z (zu M o (.inr (2, [.int (nI (j + 1)), .int (S 1 j 10), .int (S 5 q 1)]))) (A 0 2) (A 0 7) (N 1 0) cap o 2 _ _ g mo q1 (by omega) (zel_of (ci := 2) q5 (fun i hi => ⟨_, (hr5.2.2.2.2.2.2.2.1 i hi).1⟩) rfl (by decide +kernel)) (zu_s _ _ _) rfl (by decide) (by decide +kernel)) k_D_50 n_L_add1 v_L_add1 q1.1 rfl rfl ⟨(Nat.le_of_ble_eq_true rfl), (Nat.le_of_ble_eq_true rfl)⟩ ⟨by show 1 + 1 ≤ 2 * 1; omega, by show 3 + (cap + cap / 2 + 10) ≤ 1513 * 1; omega⟩ rfl (Nat.le_of_ble_eq_true rfl) ?_
      rintro v M5 ⟨rfl, ed', cap', g', w1, w2, w3, w4, w5, w6, w7, w8⟩
      have e3 : ed' ≠ o := fun u => by
        rcases w4 with ⟨w, w'⟩ | w
        · rcases q1.2 with ⟨_, _, a⟩ | ⟨a, _⟩
          · omega
          · rw [← w, u, zu_s] at a; cases a
        · rw [u, zu_s] at w; cases w
      have nL : A 0 2 ≠ o := fun u => mL (by rw [u]; exact f1)
      obtain ⟨rl', A', g1, g2, g3, g4, _⟩ := rep_clash (M' := M5) (q := o) (c0 := nI (j + 1)) (c1 := S 1 j 10) (c2 := S 5 q 1) hr hlt f1 w1 (by rw [w8 o (fun u => nL u.symm) (fun u => e3 u.symm), zu_s]) (by
        rcases w4 with ⟨w, w'⟩ | w
        · refine Or.inl ⟨?_, ?_⟩
          · rw [w]
            rcases q4 with a | a
            · omega
            · exact a
          · rw [w]
            rcases q1.2 with ⟨_, _, a⟩ | ⟨a, _⟩
            · omega
            · rw [zu_n (by rw [← w]; exact e3)] at a
              rw [a]; exact fun u => by cases u
        · rw [zu_n e3] at w
          exact Or.inr ⟨w, e3⟩) w2 (by rcases w5 with w | w <;> omega) (fun i hi => by rw [w6 i hi]; exact q5 i hi) w7 (fun x0 a b c1 => by rw [w8 x0 a b, zu_n c1])
      refine zgo (cut := fun _ => false) 60 C lk_D hR ?_
      simp only [zs_sipush, zs_aload_n, zs_astore_n0, zs_astore_n1, zs_dup0, zs_dup1, zs_pop0, zs_pop1, zs_pop2, zs_dup2, zs_if_eq, zs_icmp_ge, zs_goto, zs_get, zs_return, zx_iv, zx_is, zx_it, zx_nw, zx_na, zx_an, zx_cc, zx_gs, zx_as, zx_ae, zx_ac, zx_at, zr_seg, zr_t, zr_f, zr_tp, zr_fp, zr_lg, zr_lr, zr_lr0, zr_wi, zr_wr, zr_wn, zr_wl, zr_vo, zr_so, zr_sI, zr_sL, zr_sA, zr_sN, zr_in, zr_rd, zr_wr2, zr_kf, zr_k0, zr_k1, zr_k2, zr_k3, zr_k3n, zr_k10, zr_k11, zr_k12, zr_k13, zr_k13n, zr_ai, zr_af, zr_aw, zr_aL, zr_Lf, zr_Lw, zr_l2, zr_l20, zr_al, zr_an, zr_aq, zr_ag, zr_rfs, zr_rfn, zr_r1, zr_r2, zr_w0, zr_w1, zr_tl, zr_40, zr_41, zr_42, zr_43, d_D_doForAll_0, d_D_doForAll_1, fl_D_166, d_D_doForAll_4, fl_D_73, d_D_doForAll_7, d_D_doForAll_8, d_D_doForAll_9, d_D_doForAll_10, fl_D_169, d_D_doForAll_13, d_D_doForAll_14, fl_D_172, d_D_doForAll_17, d_D_doForAll_18, fl_D_175, d_D_doForAll_21, d_D_doForAll_24, zt_24_11, zo_24_11, d_D_doForAll_27, d_D_doForAll_28, d_D_doForAll_29, d_D_doForAll_32, zt_32_46, zo_32_46, d_D_doForAll_35, d_D_doForAll_36, fl_D_16, d_D_doForAll_39, d_D_doForAll_42, cs_512, d_D_doForAll_45, zt_45_33, zo_45_33, d_D_doForAll_48, d_D_doForAll_49, d_D_doForAll_52, d_D_doForAll_55, d_D_doForAll_56, d_D_doForAll_57, d_D_doForAll_60, fl_D_178, d_D_doForAll_63, d_D_doForAll_64, fl_D_181, d_D_doForAll_67, d_D_doForAll_68, d_D_doForAll_71, d_D_doForAll_74, d_D_doForAll_77, d_D_doForAll_78, za_0, za_i, za_r, za_n, za_l, zu_s, zu_u, Nat.reduceAdd, Nat.reduceLT, Nat.reduceBEq, Nat.zero_add, Bool.false_or, Bool.or_false, Bool.true_or, Bool.or_true, Bool.false_and, Bool.and_false, Bool.true_and, Bool.and_true, true_and, and_true, true_or, or_true, eq_self, Nat.le_refl, List.getElem?_cons_succ, List.getElem?_cons_zero, List.set_cons_succ, List.set_cons_zero, zk_0, zk_1, zk_2, zk_3, zk_4, zq_1, zq_2, Option.isSome_some, Option.getD_some, Option.toList_some, Option.toList_none, List.cons_append, List.nil_append, true_implies, false_implies, not_true_eq_false, not_false_eq_true, zn_10, Int32.reduceLT, Int32.reduceLE, implies_true, and_self]
      exact ⟨by omega, rl', A', g1, g2, g3, g4⟩
