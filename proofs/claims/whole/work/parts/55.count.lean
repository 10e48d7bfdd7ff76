/-! COUNTS: what a call adds. -/
def zsum (f : Nat → Nat) : Nat := f 0 + f 1 + f 2 + f 3 + f 4 + f 5 + f 6 + f 7
def zGr (N N' : Nat → Nat → Nat) : Prop := N' 1 0 + zsum (N' 3) ≤ N 1 0 + zsum (N 3) + 1 ∧ zsum (N 4) ≤ zsum (N' 4) ∧ N 1 0 ≤ N' 1 0
theorem ga_0 (N : Nat → Nat → Nat) : zGr N N := ⟨by omega, Nat.le_refl _, Nat.le_refl _⟩
theorem ga_e {N N' : Nat → Nat → Nat} (h1 : N' 1 0 = N 1 0) (h3 : N' 3 = N 3) (h4 : N' 4 = N 4) : zGr N N' := by
  unfold zGr
  rw [h1, h3, h4]
  exact ⟨by omega, Nat.le_refl _, Nat.le_refl _⟩
theorem zN_f {N : Nat → Nat → Nat} {t t' i x : Nat} (h : t' ≠ t) : zN1 N t i x t' = N t' := funext fun _ => zN_t h
theorem ga_t {N : Nat → Nat → Nat} {t i x : Nat} (h1 : t ≠ 1) (h3 : t ≠ 3) (h4 : t ≠ 4) : zGr N (zN1 N t i x) := ga_e (zN_t (fun u => h1 u.symm)) (zN_f (fun u => h3 u.symm)) (zN_f (fun u => h4 u.symm))
theorem ga_item {S S' : Nat → Nat → Nat → Int32} {N N' : Nat → Nat → Nat} {s0 r0 v : Int32} (h : zItem S N s0 r0 v S' N') : zGr N N' := by
  rcases h with ⟨_, _, _, e⟩ | ⟨_, ⟨_, _, _, e⟩ | ⟨_, _, _, e⟩⟩
  · rw [e]; exact ga_0 N
  · rw [e]; exact ga_0 N
  · rw [e]; exact ga_t (by decide) (by decide) (by decide)
theorem ga_turn {S S' : Nat → Nat → Nat → Int32} {N N' : Nat → Nat → Nat} {x v : Int32} (h : zTurn S N x v S' N') : zGr N N' := by
  rcases h with ⟨_, _, _, _, _, _, e⟩ | ⟨_, _, _, _, e⟩ | ⟨_, _, _, _, e⟩
  · rw [e]; exact ga_t (by decide) (by decide) (by decide)
  · rw [e]; exact ga_0 N
  · rw [e]; exact ga_t (by decide) (by decide) (by decide)
theorem ga_con {S S' : Nat → Nat → Nat → Int32} {N N' : Nat → Nat → Nat} {p0 k0 o0 v : Int32} (h : zCon S N p0 k0 o0 v S' N') : zGr N N' := by
  rcases h with ⟨_, _, _, e⟩ | ⟨_, ⟨_, h⟩ | ⟨_, ⟨_, _, _, e⟩ | ⟨_, ⟨_, _, _, e⟩ | ⟨_, h⟩⟩⟩⟩
  · rw [e]; exact ga_0 N
  · exact ga_turn h
  · rw [e]; exact ga_0 N
  · rw [e]; exact ga_0 N
  · exact ga_turn h
theorem sum_up {f g : Nat → Nat} {d : Nat} (hd : d < 8) (h : ∀ i, i ≠ d → g i = f i) : zsum g + f d = zsum f + g d := by
  unfold zsum
  have h0 := h 0
  have h1 := h 1
  have h2 := h 2
  have h3 := h 3
  have h4 := h 4
  have h5 := h 5
  have h6 := h 6
  have h7 := h 7
  rcases (by omega : d = 0 ∨ d = 1 ∨ d = 2 ∨ d = 3 ∨ d = 4 ∨ d = 5 ∨ d = 6 ∨ d = 7) with rfl | rfl | rfl | rfl | rfl | rfl | rfl | rfl <;> omega
theorem sum_le {f : Nat → Nat} {d : Nat} (hd : d < 8) : f d ≤ zsum f := by
  unfold zsum
  rcases (by omega : d = 0 ∨ d = 1 ∨ d = 2 ∨ d = 3 ∨ d = 4 ∨ d = 5 ∨ d = 6 ∨ d = 7) with rfl | rfl | rfl | rfl | rfl | rfl | rfl | rfl <;> omega
theorem sum_60 {f : Nat → Nat} (h : ∀ d, d < 8 → f d ≤ 60) : zsum f ≤ 480 := by
  unfold zsum
  have h0 := h 0
  have h1 := h 1
  have h2 := h 2
  have h3 := h 3
  have h4 := h 4
  have h5 := h 5
  have h6 := h 6
  have h7 := h 7
  omega
theorem ga_act {S S' : Nat → Nat → Nat → Int32} {N N' : Nat → Nat → Nat} {T T' : Nat → Int64} {dev x kind who proof v : Int32} {t : Int64} (h : zAct S N T dev x kind who proof t v S' N' T') : zGr N N' := by
  rcases h with ⟨_, _, _, e, _⟩ | ⟨j, _, _, ⟨_, _, _, e, _⟩ | ⟨d, d8, _, ⟨_, _, _, _, e, _⟩ | ⟨F, _, ⟨_, _, _, e, _⟩ | ⟨_, ⟨_, _, _, e, _⟩ | ⟨_, ⟨_, _, _, _, e, _⟩ | ⟨_, _, ⟨_, _, e, _⟩ | ⟨_, _, ⟨_, e, _⟩ | ⟨_, e, _⟩⟩⟩⟩⟩⟩⟩⟩
  · rw [e]; exact ga_0 N
  · rw [e]; exact ga_0 N
  · rw [e]; exact ga_0 N
  · rw [e]; exact ga_0 N
  · rw [e]; exact ga_0 N
  · rw [e]; exact ga_0 N
  · rw [e]; exact ga_0 N
  · rw [e]; exact ga_0 N
  · have e1 : N' 1 0 = N 1 0 := by rw [e, zN_t (by decide), zN_t (by decide)]
    have e4 : N' 4 = N 4 := by rw [e, zN_f (by decide), zN_f (by decide)]
    have e3 : N' 3 d = N 3 d + 1 := by rw [e, zN_t (by decide), zN_e]
    have eo : ∀ i, i ≠ d → N' 3 i = N 3 i := fun i hi => by rw [e, zN_t (by decide), zN_n hi]
    have := sum_up (f := N 3) (g := N' 3) d8 eo
    unfold zGr
    rw [e1, e4]
    exact ⟨by omega, Nat.le_refl _, Nat.le_refl _⟩
theorem ga_join {S S' : Nat → Nat → Nat → Int32} {N N' : Nat → Nat → Nat} {dev v : Int32} (h : zJoin S N dev v S' N') : zGr N N' := by
  rcases h with ⟨_, _, _, e⟩ | ⟨d, d8, _, ⟨_, _, _, e⟩ | ⟨_, _, e, _⟩⟩
  · rw [e]; exact ga_0 N
  · rw [e]; exact ga_0 N
  · have e1 : N' 1 0 = (zJp S N d (N 3 d)).2 1 0 := by rw [e, zN_t (by decide)]
    have e4 : N' 4 = N 4 := by rw [e, zN_f (by decide)]; exact funext fun _ => zJp_t (by decide) _
    have e3 : N' 3 d = 0 := by rw [e, zN_e]
    have eo : ∀ i, i ≠ d → N' 3 i = N 3 i := fun i hi => by rw [e, zN_n hi]; exact zJp_t (by decide) _
    have := sum_up (f := N 3) (g := N' 3) d8 eo
    have u := zJp_up (S := S) (N := N) (d := d) (N 3 d)
    have w : N 1 0 ≤ (zJp S N d (N 3 d)).2 1 0 := by have := zJp_1 (S := S) (N := N) (d := d) 0 (N 3 d); rw [Nat.zero_add] at this; exact this
    unfold zGr
    rw [e1, e4]
    exact ⟨by omega, Nat.le_refl _, w⟩
/-- what a join costs: its new clashes -/
theorem jc {S S' : Nat → Nat → Nat → Int32} {N N' : Nat → Nat → Nat} {T : Nat → Int64} {I : Nat → Nat → Int32} {L : Nat → Nat → Int64} {dev v : Int32} {d : Nat} (hq : zRel S N T I L) (h : zJoin S N dev v S' N') (d8 : d < 8) (hd : dev = nI d) : (zJp S N d (N 3 d)).2 1 0 = N' 1 0 := by
  rcases h with ⟨h, _⟩ | ⟨d', d8', hd', ⟨h, _, _, e⟩ | ⟨_, _, e, _⟩⟩
  · exact absurd ⟨by rw [hd]; exact nI_pos' (by omega), by rw [hd]; exact nI_lt (b := 8) (by omega) (by omega)⟩ h
  · have : d' = d := (nI_eq (by omega) (by omega)).mp (hd'.symm.trans hd)
    subst this
    rw [(hq.dv d' d8').2.2.2.2 h, e]
    rfl
  · have : d' = d := (nI_eq (by omega) (by omega)).mp (hd'.symm.trans hd)
    subst this
    rw [e, zN_t (by decide)]
theorem ga_cut {S S' : Nat → Nat → Nat → Int32} {N N' : Nat → Nat → Nat} {dev on v : Int32} (hb : zBd N) (h : zCut S N dev on v S' N') : zGr N N' ∧ ∀ d, d < 8 → dev = nI d → S 4 d 0 ≠ on → on ≠ 0 → zsum (N' 4) = zsum (N 4) + (N 0 0 - N 4 d) := by
  rcases h with ⟨h, _, _, e⟩ | ⟨d, d8, hd, ⟨h, _, _, e⟩ | ⟨h, h0, _, _, e⟩ | ⟨h, h0, _, _, e⟩⟩
  · rw [e]
    exact ⟨ga_0 N, fun d d8 hd => absurd ⟨by rw [hd]; exact nI_pos' (by omega), by rw [hd]; exact nI_lt (b := 8) (by omega) (by omega)⟩ h⟩
  · rw [e]
    refine ⟨ga_0 N, fun d' d8' hd' hn => ?_⟩
    have : d = d' := (nI_eq (by omega) (by omega)).mp (hd.symm.trans hd')
    subst this
    exact absurd h hn
  · have e1 : N' 1 0 = N 1 0 := by rw [e]; exact zOp_N (by decide) _
    have e3 : N' 3 = N 3 := by rw [e]; exact funext fun _ => zOp_N (by decide) _
    have e4 : N' 4 d = N 0 0 := by rw [e, zOp_4, if_pos (hb.b3 d d8).2]
    have eo : ∀ i, i ≠ d → N' 4 i = N 4 i := fun i hi => by rw [e]; exact zOp_4o hi _
    have su := sum_up (f := N 4) (g := N' 4) d8 eo
    have b3 := (hb.b3 d d8).2
    refine ⟨?_, fun d' d8' hd' _ _ => ?_⟩
    · unfold zGr
      rw [e1, e3]
      exact ⟨by omega, by omega, Nat.le_refl _⟩
    · have : d = d' := (nI_eq (by omega) (by omega)).mp (hd.symm.trans hd')
      subst this
      omega
  · have e1 : N' 1 0 = N 1 0 := by rw [e, zN_t (by decide)]
    have e4 : N' 4 = N 4 := by rw [e, zN_f (by decide)]
    have e3 : N' 3 d = 0 := by rw [e, zN_e]
    have eo : ∀ i, i ≠ d → N' 3 i = N 3 i := fun i hi => by rw [e, zN_n hi]
    have := sum_up (f := N 3) (g := N' 3) d8 eo
    refine ⟨?_, fun d' _ _ _ h1 => absurd h0 h1⟩
    unfold zGr
    rw [e1, e4]
    exact ⟨by omega, Nat.le_refl _, Nat.le_refl _⟩
