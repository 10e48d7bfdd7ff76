/-! FRAMES between the class's cells and the reference's. -/
section FR
variable {M M' : zVw} {rl rl' : Nat → Nat} {dA : Nat → ClassId}
theorem zAt_m {x r : Nat} {e : va_E} (hk : ∀ x, M x ≠ none → rl x < 5000000 → M' x = M x ∧ rl' x = rl x) (h : zAt M rl x r e) (hr : r < 5000000) : zAt M' rl' x r e := by
  have := hk x (by rw [h.1]; exact fun u => by cases u) (by rw [h.2]; exact hr)
  exact ⟨by rw [this.1]; exact h.1, by rw [this.2]; exact h.2⟩
theorem zLr_m {a ra ed re n : Nat} {ea : Nat → Nat} (hk : ∀ x, M x ≠ none → rl x < 5000000 → M' x = M x ∧ rl' x = rl x) (h : zLr M rl dA a ra ed re n ea) (h1 : ra < 5000000) (h2 : re < 5000000) : zLr M' rl' dA a ra ed re n ea := by
  obtain ⟨cap, g, mo, ⟨q1, q2⟩, q3, q4, q5, q6⟩ := h
  have ka := hk a (by rw [q1]; exact fun u => by cases u) (by rw [q4]; exact h1)
  refine ⟨cap, g, mo, ⟨by rw [ka.1]; exact q1, ?_⟩, q3, by rw [ka.2]; exact q4, ?_, q6⟩
  · rcases q2 with q2 | ⟨q7, q8, q9⟩
    · exact Or.inl q2
    · refine Or.inr ⟨?_, q8, q9⟩
      rcases q5 with q5 | q5
      · omega
      · rw [(hk ed (by rw [q7]; exact fun u => by cases u) (by rw [q5]; exact h2)).1]; exact q7
  · rcases q5 with q5 | q5
    · exact Or.inl q5
    · rcases q2 with q2 | ⟨q7, q8, q9⟩
      · exact Or.inl q2.2.2
      · exact Or.inr (by rw [(hk ed (by rw [q7]; exact fun u => by cases u) (by rw [q5]; exact h2)).2]; exact q5)
set_option maxHeartbeats 4000000 in
set_option maxRecDepth 100000 in
theorem rep_m {A : Nat → Nat → Nat} {S : Nat → Nat → Nat → Int32} {N : Nat → Nat → Nat} {T : Nat → Int64} (hk : ∀ x, M x ≠ none → rl x < 5000000 → M' x = M x ∧ rl' x = rl x) (hr : zRep M rl dA A S N T) : zRep M' rl' dA A S N T := by
  obtain ⟨h1, h2, h3, h4, h5, ⟨g6, h6, h6b⟩, h7, h8, h9, h10, h11, b1, b2, b3⟩ := hr
  exact ⟨zAt_m hk h1 (by unfold zr; omega), zLr_m hk h2 (by unfold zr; omega) (by unfold zr; omega), zLr_m hk h3 (by unfold zr; omega) (by unfold zr; omega), zAt_m hk h4 (by unfold zr; omega), zAt_m hk h5 (by unfold zr; omega), ⟨g6, zAt_m hk h6 (by unfold zr; omega), h6b⟩, fun j hj => ⟨zAt_m hk (h7 j hj).1 (by unfold zr; omega), zAt_m hk (h7 j hj).2.1 (by unfold zr; omega), (h7 j hj).2.2⟩, fun i hi => zAt_m hk (h8 i hi) (by unfold zr; omega), fun d hd => ⟨zAt_m hk (h9 d hd).1 (by unfold zr; omega), (h9 d hd).2.1, zLr_m hk (h9 d hd).2.2.1 (by unfold zr; omega) (by unfold zr; omega), zLr_m hk (h9 d hd).2.2.2.1 (by unfold zr; omega) (by unfold zr; omega), (h9 d hd).2.2.2.2⟩, fun d j hd hj => ⟨zAt_m hk (h10 d j hd hj).1 (by have := (h9 d hd).2.2.2.2; unfold zr; omega), (h10 d j hd hj).2⟩, fun d j hd hj => ⟨zAt_m hk (h11 d j hd hj).1 (by have := (h9 d hd).2.2.2.2; unfold zr; omega), (h11 d j hd hj).2⟩, ⟨b1, b2, b3⟩⟩
/-- a step of the reference keeps the class's state -/
theorem rep_g {A : Nat → Nat → Nat} {S : Nat → Nat → Nat → Int32} {N : Nat → Nat → Nat} {T : Nat → Int64} {B : Nat → Nat} {I : Nat → Nat → Int32} {L : Nat → Nat → Int64} (hr : zRep M rl dA A S N T) (hg : zRg M M' rl dA B I L) : zRep M' rl dA A S N T := rep_m (fun x _ h => ⟨hg.2 x h, rfl⟩) hr
theorem zkd_o {k : Nat} (h : 34 ≤ k) : zkd k = 9 := by
  unfold zkd
  rw [List.getD_eq_getElem?_getD, List.getElem?_eq_none (by exact h)]
  rfl
theorem zkd_s (k : Nat) : zkd k = 0 ∨ zkd k = 1 ∨ zkd k = 2 ∨ (zkd k = 8 ∧ k = 0) ∨ zkd k = 9 := by
  rcases Nat.lt_or_ge k 34 with h | h
  · have : ∀ k, k < 34 → zkd k = 0 ∨ zkd k = 1 ∨ zkd k = 2 ∨ (zkd k = 8 ∧ k = 0) ∨ zkd k = 9 := by decide +kernel
    exact this k h
  · exact Or.inr (Or.inr (Or.inr (Or.inr (zkd_o h))))
/-- a step of the class keeps the reference's state -/
theorem rf_m {B : Nat → Nat} {I : Nat → Nat → Int32} {L : Nat → Nat → Int64} (hr : zRf M rl dA B I L) (hf : zFr M rl M' rl') : zRf M' rl' dA B I L := by
  have nn : ∀ k, zkd k < 9 → M (B k) ≠ none := fun k hk u => by
    rcases zkd_s k with h | h | h | ⟨_, h⟩ | h
    · rw [hr.2.2.1 k h] at u; cases u
    · rw [hr.2.2.2.1 k h] at u; cases u
    · rw [(hr.2.2.2.2 k h).1] at u; cases u
    · subst h; rw [hr.1] at u; cases u
    · omega
  have key : ∀ k, zkd k < 9 → M' (B k) = M (B k) ∧ rl' (B k) = rl (B k) := fun k hk => hf _ (nn k hk) (by rw [hr.2.1 k hk]; omega)
  exact ⟨by rw [(key 0 (by decide)).1]; exact hr.1, fun k hk => by rw [(key k hk).2]; exact hr.2.1 k hk, fun k hk => by rw [(key k (by omega)).1]; exact hr.2.2.1 k hk, fun k hk => by rw [(key k (by omega)).1]; exact hr.2.2.2.1 k hk, fun k hk => by rw [(key k (by omega)).1]; exact hr.2.2.2.2 k hk⟩
end FR
/-! A new reference. -/
def zAr (dA : Nat → ClassId) (k : Nat) : va_E := if zkd k = 0 then .inl (dA 0, zln k, .inl (fun _ => 0)) else if zkd k = 1 then .inl (dA 3, zln k, .inr (.inl (fun _ => 0))) else .inl (dA 4, zln k, .inl (fun _ => 0))
def zNw (M0 M : zVw) (dA : Nat → ClassId) (h : Nat) (qs : List (Nat × Nat)) : Prop :=
  (∀ x, M0 x ≠ none → x ≠ h → M x = M0 x) ∧ (∀ p ∈ qs, M p.2 = some (zAr dA p.1) ∧ p.2 ≠ h ∧ M0 p.2 = none) ∧ qs.Pairwise (fun a b => a.2 ≠ b.2) ∧ M h ≠ none
theorem zNw_s {M0 M : zVw} {dA : Nat → ClassId} {h q : Nat} {qs : List (Nat × Nat)} {e : va_E} (k : Nat) (hn : zNw M0 M dA h qs) (f : M q = none) : zNw M0 (zu (zu M q (zAr dA k)) h e) dA h ((k, q) :: qs) := by
  obtain ⟨h1, h2, h3, h4⟩ := hn
  have qh : q ≠ h := fun u => h4 (by rw [← u]; exact f)
  have nq : ∀ p ∈ qs, p.2 ≠ q := fun p hp u => by have := (h2 p hp).1; rw [u, f] at this; cases this
  have f0 : M0 q = none := by
    cases u : M0 q with
    | none => rfl
    | some e =>
      have := h1 q (by rw [u]; exact fun w => by cases w) qh
      rw [f, u] at this; cases this
  refine ⟨fun x hx hxh => ?_, fun p hp => ?_, ?_, by rw [zu_s]; exact fun u => by cases u⟩
  · rw [zu_n hxh, zu_n (fun u => hx (by rw [u]; exact f0))]; exact h1 x hx hxh
  · rcases List.mem_cons.mp hp with rfl | hp
    · exact ⟨by rw [zu_n qh, zu_s], qh, f0⟩
    · obtain ⟨a1, a2, a3⟩ := h2 p hp
      exact ⟨by rw [zu_n a2, zu_n (nq p hp)]; exact a1, a2, a3⟩
  · exact List.pairwise_cons.mpr ⟨fun p hp u => nq p hp u.symm, h3⟩
def zkA (qs : List (Nat × Nat)) (h k : Nat) : Nat := if k = 0 then h else ((qs.find? (fun p => p.1 == k)).map (fun p => p.2)).getD 0
def zkR (qs : List (Nat × Nat)) (rl : Nat → Nat) (h x : Nat) : Nat := if x = h then 5000000 else match qs.find? (fun p => p.2 == x) with | some p => 5000000 + p.1 | none => rl x
theorem fd_1 {k a : Nat} : ∀ {qs : List (Nat × Nat)}, (qs.map (fun p => p.1)).Pairwise (fun a b => a ≠ b) → (k, a) ∈ qs → qs.find? (fun p => p.1 == k) = some (k, a)
  | [], _, h => absurd h List.not_mem_nil
  | q :: qs, hp, h => by
    rw [List.map_cons, List.pairwise_cons] at hp
    rcases List.mem_cons.mp h with e | h
    · rw [← e, List.find?_cons_of_pos (by simp)]
    · have : q.1 ≠ k := hp.1 k (List.mem_map.mpr ⟨_, h, rfl⟩)
      rw [List.find?_cons_of_neg (by simp [this])]
      exact fd_1 hp.2 h
theorem fd_2 {k a : Nat} : ∀ {qs : List (Nat × Nat)}, qs.Pairwise (fun a b => a.2 ≠ b.2) → (k, a) ∈ qs → qs.find? (fun p => p.2 == a) = some (k, a)
  | [], _, h => absurd h List.not_mem_nil
  | q :: qs, hp, h => by
    rw [List.pairwise_cons] at hp
    rcases List.mem_cons.mp h with e | h
    · rw [← e, List.find?_cons_of_pos (by simp)]
    · have : q.2 ≠ a := hp.1 _ h
      rw [List.find?_cons_of_neg (by simp [this])]
      exact fd_2 hp.2 h
def zKs : List Nat := [32, 31, 30, 28, 27, 26, 25, 24, 23, 22, 21, 20, 19, 18, 17, 15, 14, 13, 12, 11, 10, 9, 8, 7, 6, 5, 4, 3, 2, 1]
theorem zNw_f {M0 M : zVw} {dA : Nat → ClassId} {h : Nat} {qs : List (Nat × Nat)} (rl : Nat → Nat) (hn : zNw M0 M dA h qs) (hks : qs.map (fun p => p.1) = zKs) (hM : M h = some (zMo (zkA qs h) 0 0 0 0)) : zRf M (zkR qs rl h) dA (zkA qs h) (fun _ _ => 0) (fun _ _ => 0) ∧ ∀ x, M0 x ≠ none → x ≠ h → M x = M0 x ∧ zkR qs rl h x = rl x := by
  obtain ⟨h1, h2, h3, h4⟩ := hn
  have hp : (qs.map (fun p => p.1)).Pairwise (fun a b => a ≠ b) := by rw [hks]; decide
  have hz : ∀ k, zkd k < 8 → k ≠ 0 ∧ k ∈ zKs := fun k hk => by
    rcases Nat.lt_or_ge k 34 with u | u
    · have : ∀ k, k < 34 → zkd k < 8 → k ≠ 0 ∧ k ∈ zKs := by decide +kernel
      exact this k u hk
    · rw [zkd_o u] at hk; omega
  have key : ∀ k, zkd k < 8 → ∃ a, zkA qs h k = a ∧ a ≠ h ∧ M a = some (zAr dA k) ∧ zkR qs rl h a = 5000000 + k := fun k hk => by
    obtain ⟨k0, km⟩ := hz k hk
    rw [← hks] at km
    obtain ⟨⟨k', a⟩, hm, e⟩ := List.mem_map.mp km
    have e : k' = k := e
    subst e
    obtain ⟨a1, a2, a3⟩ := h2 _ hm
    refine ⟨a, ?_, a2, a1, ?_⟩
    · unfold zkA; rw [if_neg k0, fd_1 hp hm]; rfl
    · unfold zkR; rw [if_neg a2, fd_2 h3 hm]
  refine ⟨⟨?_, fun k hk => ?_, fun k hk => ?_, fun k hk => ?_, fun k hk => ?_⟩, fun x hx hxh => ⟨h1 x hx hxh, ?_⟩⟩
  · show M (zkA qs h 0) = _
    have : zkA qs h 0 = h := if_pos rfl
    rw [this]; exact hM
  · rcases zkd_s k with u | u | u | ⟨_, u⟩ | u
    · obtain ⟨a, e, _, _, e2⟩ := key k (by omega); rw [e]; exact e2
    · obtain ⟨a, e, _, _, e2⟩ := key k (by omega); rw [e]; exact e2
    · obtain ⟨a, e, _, _, e2⟩ := key k (by omega); rw [e]; exact e2
    · subst u; show zkR qs rl h (zkA qs h 0) = _; rw [show zkA qs h 0 = h from if_pos rfl]; exact if_pos rfl
    · omega
  · obtain ⟨a, e, _, e2, _⟩ := key k (by omega); rw [e, e2]; unfold zAr; rw [if_pos hk]
  · obtain ⟨a, e, _, e2, _⟩ := key k (by omega); rw [e, e2]; unfold zAr; rw [if_neg (by omega), if_pos hk]
  · obtain ⟨a, e, _, e2, _⟩ := key k (by omega); rw [e, e2]; unfold zAr; rw [if_neg (by omega), if_neg (by omega)]; exact ⟨rfl, fun _ => Or.inl rfl⟩
  · unfold zkR
    rw [if_neg hxh]
    have : qs.find? (fun p => p.2 == x) = none := by
      rw [List.find?_eq_none]
      intro p hp u
      have u : p.2 = x := by simpa using u
      exact hx (by rw [← u]; exact (h2 p hp).2.2)
    rw [this]
theorem zJ_gen {p : Program} {l : Launch} {e : Env} {R : Room} {s : State} {m : MethodId} {args : Array Value} {below : List Frame} {meth : Method} {c : Code} {Q : State → Prop} {nL z : Nat} {D : va_G} {pc k n : Nat} {loc : List (Nat × Value)} {M : zVw} {st : List Value} (P : zVw → Prop) (h : P M) (kk : ∀ M', P M' → zJ p l e R s m args below meth c Q nL z D pc loc st M' k n) : zJ p l e R s m args below meth c Q nL z D pc loc st M k n := kk M h
