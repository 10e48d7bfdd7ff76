theorem tb_at {w : Cond} (i : Nat) (h : lw_tbl[i]? = some w) (hg : goodWord w = true) : w ∈ tb := List.mem_filter.mpr ⟨List.mem_of_getElem? h, hg⟩
theorem tb_1 {w : Cond} (i : Nat) (h : tables_1_1[i]? = some w) (hg : goodWord w = true) : w ∈ tb := List.mem_filter.mpr ⟨List.mem_append_right _ (List.mem_append_left _ (List.mem_of_getElem? h)), hg⟩
theorem tb_2 {w : Cond} (i : Nat) (h : tables_1_2[i]? = some w) (hg : goodWord w = true) : w ∈ tb := List.mem_filter.mpr ⟨List.mem_append_right _ (List.mem_append_right _ (List.mem_append_left _ (List.mem_of_getElem? h))), hg⟩
theorem tb_3 {w : Cond} (i : Nat) (h : tables_1_3[i]? = some w) (hg : goodWord w = true) : w ∈ tb := List.mem_filter.mpr ⟨List.mem_append_right _ (List.mem_append_right _ (List.mem_append_right _ (List.mem_of_getElem? h))), hg⟩
/-! LINKS: written by wip/whole/genlinks.py out of the words. -/
def fl_D : Nat → Option (Nat × Nat × Nat) := fun x => match x with
  | 12 => some (0, 0, 13)
  | 16 => some (0, 1, 13)
  | 22 => some (0, 2, 13)
  | 28 => some (0, 3, 13)
  | 32 => some (0, 4, 1)
  | 65 => some (4, 0, 2)
  | 73 => some (6, 3, 20)
  | 81 => some (4, 1, 1)
  | 93 => some (4, 2, 20)
  | 121 => some (2, 0, 20)
  | 125 => some (2, 1, 20)
  | 128 => some (2, 2, 20)
  | 135 => some (5, 3, 0)
  | 144 => some (6, 1, 20)
  | 151 => some (5, 9, 0)
  | 154 => some (5, 8, 0)
  | 157 => some (5, 0, 0)
  | 160 => some (6, 4, 0)
  | 163 => some (5, 2, 2)
  | 166 => some (1, 0, 20)
  | 169 => some (1, 2, 20)
  | 172 => some (1, 1, 20)
  | 175 => some (1, 5, 20)
  | 178 => some (6, 0, 20)
  | 181 => some (5, 10, 0)
  | 187 => some (6, 2, 20)
  | _ => none
theorem fl_D_12 : fl_D 12 = some (0, 0, 13) := rfl
theorem fl_D_16 : fl_D 16 = some (0, 1, 13) := rfl
theorem fl_D_22 : fl_D 22 = some (0, 2, 13) := rfl
theorem fl_D_28 : fl_D 28 = some (0, 3, 13) := rfl
theorem fl_D_32 : fl_D 32 = some (0, 4, 1) := rfl
theorem fl_D_65 : fl_D 65 = some (4, 0, 2) := rfl
theorem fl_D_73 : fl_D 73 = some (6, 3, 20) := rfl
theorem fl_D_81 : fl_D 81 = some (4, 1, 1) := rfl
theorem fl_D_93 : fl_D 93 = some (4, 2, 20) := rfl
theorem fl_D_121 : fl_D 121 = some (2, 0, 20) := rfl
theorem fl_D_125 : fl_D 125 = some (2, 1, 20) := rfl
theorem fl_D_128 : fl_D 128 = some (2, 2, 20) := rfl
theorem fl_D_135 : fl_D 135 = some (5, 3, 0) := rfl
theorem fl_D_144 : fl_D 144 = some (6, 1, 20) := rfl
theorem fl_D_151 : fl_D 151 = some (5, 9, 0) := rfl
theorem fl_D_154 : fl_D 154 = some (5, 8, 0) := rfl
theorem fl_D_157 : fl_D 157 = some (5, 0, 0) := rfl
theorem fl_D_160 : fl_D 160 = some (6, 4, 0) := rfl
theorem fl_D_163 : fl_D 163 = some (5, 2, 2) := rfl
theorem fl_D_166 : fl_D 166 = some (1, 0, 20) := rfl
theorem fl_D_169 : fl_D 169 = some (1, 2, 20) := rfl
theorem fl_D_172 : fl_D 172 = some (1, 1, 20) := rfl
theorem fl_D_175 : fl_D 175 = some (1, 5, 20) := rfl
theorem fl_D_178 : fl_D 178 = some (6, 0, 20) := rfl
theorem fl_D_181 : fl_D 181 = some (5, 10, 0) := rfl
theorem fl_D_187 : fl_D 187 = some (6, 2, 20) := rfl
set_option maxRecDepth 100000 in
theorem fk_D : zfl "DoorActs" fl_D := by
  intro x ci f kd h
  unfold fl_D at h
  split at h
  · cases h
    exact ⟨(R_D, T_D, 5), "DoorActs", t_D, rfl, by decide, tb_1 91 rfl rfl, Or.inl rfl, i_D, to_D, no_D, Or.inr (Or.inr (Or.inr (Or.inr (Or.inr (Or.inr (Or.inr (Or.inl ⟨rfl, by first | exact Or.inl ⟨_, rfl⟩ | exact Or.inr ⟨_, rfl⟩, rfl, rfl⟩)))))))⟩
  · cases h
    exact ⟨(R_D, T_D, 5), "DoorActs", t_D, rfl, by decide, tb_1 92 rfl rfl, Or.inl rfl, i_D, to_D, no_D, Or.inr (Or.inr (Or.inr (Or.inr (Or.inr (Or.inr (Or.inr (Or.inl ⟨rfl, by first | exact Or.inl ⟨_, rfl⟩ | exact Or.inr ⟨_, rfl⟩, rfl, rfl⟩)))))))⟩
  · cases h
    exact ⟨(R_D, T_D, 5), "DoorActs", t_D, rfl, by decide, tb_1 93 rfl rfl, Or.inl rfl, i_D, to_D, no_D, Or.inr (Or.inr (Or.inr (Or.inr (Or.inr (Or.inr (Or.inr (Or.inl ⟨rfl, by first | exact Or.inl ⟨_, rfl⟩ | exact Or.inr ⟨_, rfl⟩, rfl, rfl⟩)))))))⟩
  · cases h
    exact ⟨(R_D, T_D, 5), "DoorActs", t_D, rfl, by decide, tb_1 94 rfl rfl, Or.inl rfl, i_D, to_D, no_D, Or.inr (Or.inr (Or.inr (Or.inr (Or.inr (Or.inr (Or.inr (Or.inl ⟨rfl, by first | exact Or.inl ⟨_, rfl⟩ | exact Or.inr ⟨_, rfl⟩, rfl, rfl⟩)))))))⟩
  · cases h
    exact ⟨(R_D, T_D, 5), "DoorActs", t_D, rfl, by decide, tb_1 95 rfl rfl, Or.inl rfl, i_D, to_D, no_D, Or.inr (Or.inl ⟨rfl, rfl, rfl⟩)⟩
  · cases h
    exact ⟨(R_V, T_V, 4), "DoorActs$Device", t_V, rfl, by decide, tb_1 76 rfl rfl, Or.inl rfl, i_V, to_V, no_V, Or.inr (Or.inr (Or.inl ⟨rfl, rfl, rfl⟩))⟩
  · cases h
    exact ⟨(R_I, T_I, 5), "DoorActs$Item", t_I, rfl, by decide, tb_1 179 rfl rfl, Or.inl rfl, i_I, to_I, no_I, Or.inr (Or.inr (Or.inr (Or.inr (Or.inr (Or.inr (Or.inr (Or.inr (rfl))))))))⟩
  · cases h
    exact ⟨(R_V, T_V, 4), "DoorActs$Device", t_V, rfl, by decide, tb_1 78 rfl rfl, Or.inl rfl, i_V, to_V, no_V, Or.inr (Or.inl ⟨rfl, rfl, rfl⟩)⟩
  · cases h
    exact ⟨(R_V, T_V, 4), "DoorActs$Device", t_V, rfl, by decide, tb_1 80 rfl rfl, Or.inl rfl, i_V, to_V, no_V, Or.inr (Or.inr (Or.inr (Or.inr (Or.inr (Or.inr (Or.inr (Or.inr (rfl))))))))⟩
  · cases h
    exact ⟨(R_C, T_C, 3), "DoorActs$Clash", t_C, rfl, by decide, tb_2 153 rfl rfl, Or.inl rfl, i_C, to_C, no_C, Or.inr (Or.inr (Or.inr (Or.inr (Or.inr (Or.inr (Or.inr (Or.inr (rfl))))))))⟩
  · cases h
    exact ⟨(R_C, T_C, 3), "DoorActs$Clash", t_C, rfl, by decide, tb_2 155 rfl rfl, Or.inl rfl, i_C, to_C, no_C, Or.inr (Or.inr (Or.inr (Or.inr (Or.inr (Or.inr (Or.inr (Or.inr (rfl))))))))⟩
  · cases h
    exact ⟨(R_C, T_C, 3), "DoorActs$Clash", t_C, rfl, by decide, tb_2 157 rfl rfl, Or.inl rfl, i_C, to_C, no_C, Or.inr (Or.inr (Or.inr (Or.inr (Or.inr (Or.inr (Or.inr (Or.inr (rfl))))))))⟩
  · cases h
    exact ⟨(R_F, T_F, 11), "DoorActs$Facts", t_F, rfl, by decide, tb_1 136 rfl rfl, Or.inl rfl, i_F, to_F, no_F, Or.inl ⟨rfl, rfl, rfl⟩⟩
  · cases h
    exact ⟨(R_I, T_I, 5), "DoorActs$Item", t_I, rfl, by decide, tb_1 174 rfl rfl, Or.inl rfl, i_I, to_I, no_I, Or.inr (Or.inr (Or.inr (Or.inr (Or.inr (Or.inr (Or.inr (Or.inr (rfl))))))))⟩
  · cases h
    exact ⟨(R_F, T_F, 11), "DoorActs$Facts", t_F, rfl, by decide, tb_1 144 rfl rfl, Or.inl rfl, i_F, to_F, no_F, Or.inl ⟨rfl, rfl, rfl⟩⟩
  · cases h
    exact ⟨(R_F, T_F, 11), "DoorActs$Facts", t_F, rfl, by decide, tb_1 142 rfl rfl, Or.inl rfl, i_F, to_F, no_F, Or.inl ⟨rfl, rfl, rfl⟩⟩
  · cases h
    exact ⟨(R_F, T_F, 11), "DoorActs$Facts", t_F, rfl, by decide, tb_1 131 rfl rfl, Or.inl rfl, i_F, to_F, no_F, Or.inl ⟨rfl, rfl, rfl⟩⟩
  · cases h
    exact ⟨(R_I, T_I, 5), "DoorActs$Item", t_I, rfl, by decide, tb_1 181 rfl rfl, Or.inl rfl, i_I, to_I, no_I, Or.inl ⟨rfl, rfl, rfl⟩⟩
  · cases h
    exact ⟨(R_F, T_F, 11), "DoorActs$Facts", t_F, rfl, by decide, tb_1 134 rfl rfl, Or.inl rfl, i_F, to_F, no_F, Or.inr (Or.inr (Or.inl ⟨rfl, rfl, rfl⟩))⟩
  · cases h
    exact ⟨(R_A, T_A, 6), "DoorActs$Act", t_A, rfl, by decide, tb_2 99 rfl rfl, Or.inl rfl, i_A, to_A, no_A, Or.inr (Or.inr (Or.inr (Or.inr (Or.inr (Or.inr (Or.inr (Or.inr (rfl))))))))⟩
  · cases h
    exact ⟨(R_A, T_A, 6), "DoorActs$Act", t_A, rfl, by decide, tb_2 105 rfl rfl, Or.inl rfl, i_A, to_A, no_A, Or.inr (Or.inr (Or.inr (Or.inr (Or.inr (Or.inr (Or.inr (Or.inr (rfl))))))))⟩
  · cases h
    exact ⟨(R_A, T_A, 6), "DoorActs$Act", t_A, rfl, by decide, tb_2 102 rfl rfl, Or.inl rfl, i_A, to_A, no_A, Or.inr (Or.inr (Or.inr (Or.inr (Or.inr (Or.inr (Or.inr (Or.inr (rfl))))))))⟩
  · cases h
    exact ⟨(R_A, T_A, 6), "DoorActs$Act", t_A, rfl, by decide, tb_2 112 rfl rfl, Or.inl rfl, i_A, to_A, no_A, Or.inr (Or.inr (Or.inr (Or.inr (Or.inr (Or.inr (Or.inr (Or.inr (rfl))))))))⟩
  · cases h
    exact ⟨(R_I, T_I, 5), "DoorActs$Item", t_I, rfl, by decide, tb_1 172 rfl rfl, Or.inl rfl, i_I, to_I, no_I, Or.inr (Or.inr (Or.inr (Or.inr (Or.inr (Or.inr (Or.inr (Or.inr (rfl))))))))⟩
  · cases h
    exact ⟨(R_F, T_F, 11), "DoorActs$Facts", t_F, rfl, by decide, tb_1 146 rfl rfl, Or.inl rfl, i_F, to_F, no_F, Or.inl ⟨rfl, rfl, rfl⟩⟩
  · cases h
    exact ⟨(R_I, T_I, 5), "DoorActs$Item", t_I, rfl, by decide, tb_1 176 rfl rfl, Or.inl rfl, i_I, to_I, no_I, Or.inr (Or.inr (Or.inr (Or.inr (Or.inr (Or.inr (Or.inr (Or.inr (rfl))))))))⟩
  · cases h
def lc_D : Nat → Option Int32 := fun x => match x with
  | _ => none
set_option maxRecDepth 100000 in
theorem lck_D : ∀ x v, lc_D x = some v → Cond.constant "DoorActs" x v ∈ tb := by
  intro x v h
  unfold lc_D at h
  split at h
  · cases h
def ll_D : Nat → Option Int64 := fun x => match x with
  | 84 => some (1000000000)
  | 86 => some (1440)
  | 138 => some (1000000)
  | _ => none
theorem ll_D_84 : ll_D 84 = some (1000000000) := rfl
theorem ll_D_86 : ll_D 86 = some (1440) := rfl
theorem ll_D_138 : ll_D 138 = some (1000000) := rfl
set_option maxRecDepth 100000 in
theorem llk_D : ∀ x v, ll_D x = some v → Cond.constantLong "DoorActs" x v ∈ tb := by
  intro x v h
  unfold ll_D at h
  split at h
  · cases h
    exact tb_2 59 rfl rfl
  · cases h
    exact tb_2 60 rfl rfl
  · cases h
    exact tb_2 200 rfl rfl
  · cases h
theorem lk_D : zlk "DoorActs" fl_D lc_D ll_D := ⟨fk_D, lck_D, llk_D⟩
def fl_A : Nat → Option (Nat × Nat × Nat) := fun x => match x with
  | 7 => some (1, 0, 13)
  | 13 => some (1, 1, 10)
  | 17 => some (1, 2, 10)
  | 20 => some (1, 3, 10)
  | 23 => some (1, 4, 10)
  | 26 => some (1, 5, 10)
  | _ => none
theorem fl_A_7 : fl_A 7 = some (1, 0, 13) := rfl
theorem fl_A_13 : fl_A 13 = some (1, 1, 10) := rfl
theorem fl_A_17 : fl_A 17 = some (1, 2, 10) := rfl
theorem fl_A_20 : fl_A 20 = some (1, 3, 10) := rfl
theorem fl_A_23 : fl_A 23 = some (1, 4, 10) := rfl
theorem fl_A_26 : fl_A 26 = some (1, 5, 10) := rfl
set_option maxRecDepth 100000 in
theorem fk_A : zfl "DoorActs$Act" fl_A := by
  intro x ci f kd h
  unfold fl_A at h
  split at h
  · cases h
    exact ⟨(R_A, T_A, 6), "DoorActs$Act", t_A, rfl, by decide, tb_2 98 rfl rfl, Or.inl rfl, i_A, to_A, no_A, Or.inr (Or.inr (Or.inr (Or.inr (Or.inr (Or.inr (Or.inr (Or.inl ⟨rfl, by first | exact Or.inl ⟨_, rfl⟩ | exact Or.inr ⟨_, rfl⟩, rfl, rfl⟩)))))))⟩
  · cases h
    exact ⟨(R_A, T_A, 6), "DoorActs$Act", t_A, rfl, by decide, tb_2 100 rfl rfl, Or.inl rfl, i_A, to_A, no_A, Or.inr (Or.inr (Or.inr (Or.inr (Or.inl ⟨rfl, rfl, rfl, rfl⟩))))⟩
  · cases h
    exact ⟨(R_A, T_A, 6), "DoorActs$Act", t_A, rfl, by decide, tb_2 103 rfl rfl, Or.inl rfl, i_A, to_A, no_A, Or.inr (Or.inr (Or.inr (Or.inr (Or.inl ⟨rfl, rfl, rfl, rfl⟩))))⟩
  · cases h
    exact ⟨(R_A, T_A, 6), "DoorActs$Act", t_A, rfl, by decide, tb_2 106 rfl rfl, Or.inl rfl, i_A, to_A, no_A, Or.inr (Or.inr (Or.inr (Or.inr (Or.inl ⟨rfl, rfl, rfl, rfl⟩))))⟩
  · cases h
    exact ⟨(R_A, T_A, 6), "DoorActs$Act", t_A, rfl, by decide, tb_2 108 rfl rfl, Or.inl rfl, i_A, to_A, no_A, Or.inr (Or.inr (Or.inr (Or.inr (Or.inl ⟨rfl, rfl, rfl, rfl⟩))))⟩
  · cases h
    exact ⟨(R_A, T_A, 6), "DoorActs$Act", t_A, rfl, by decide, tb_2 110 rfl rfl, Or.inl rfl, i_A, to_A, no_A, Or.inr (Or.inr (Or.inr (Or.inr (Or.inl ⟨rfl, rfl, rfl, rfl⟩))))⟩
  · cases h
def lc_A : Nat → Option Int32 := fun x => match x with
  | _ => none
set_option maxRecDepth 100000 in
theorem lck_A : ∀ x v, lc_A x = some v → Cond.constant "DoorActs$Act" x v ∈ tb := by
  intro x v h
  unfold lc_A at h
  split at h
  · cases h
def ll_A : Nat → Option Int64 := fun x => match x with
  | _ => none
set_option maxRecDepth 100000 in
theorem llk_A : ∀ x v, ll_A x = some v → Cond.constantLong "DoorActs$Act" x v ∈ tb := by
  intro x v h
  unfold ll_A at h
  split at h
  · cases h
theorem lk_A : zlk "DoorActs$Act" fl_A lc_A ll_A := ⟨fk_A, lck_A, llk_A⟩
def fl_C : Nat → Option (Nat × Nat × Nat) := fun x => match x with
  | 7 => some (2, 0, 10)
  | 13 => some (2, 1, 10)
  | 16 => some (2, 2, 10)
  | _ => none
theorem fl_C_7 : fl_C 7 = some (2, 0, 10) := rfl
theorem fl_C_13 : fl_C 13 = some (2, 1, 10) := rfl
theorem fl_C_16 : fl_C 16 = some (2, 2, 10) := rfl
set_option maxRecDepth 100000 in
theorem fk_C : zfl "DoorActs$Clash" fl_C := by
  intro x ci f kd h
  unfold fl_C at h
  split at h
  · cases h
    exact ⟨(R_C, T_C, 3), "DoorActs$Clash", t_C, rfl, by decide, tb_2 152 rfl rfl, Or.inl rfl, i_C, to_C, no_C, Or.inr (Or.inr (Or.inr (Or.inr (Or.inl ⟨rfl, rfl, rfl, rfl⟩))))⟩
  · cases h
    exact ⟨(R_C, T_C, 3), "DoorActs$Clash", t_C, rfl, by decide, tb_2 154 rfl rfl, Or.inl rfl, i_C, to_C, no_C, Or.inr (Or.inr (Or.inr (Or.inr (Or.inl ⟨rfl, rfl, rfl, rfl⟩))))⟩
  · cases h
    exact ⟨(R_C, T_C, 3), "DoorActs$Clash", t_C, rfl, by decide, tb_2 156 rfl rfl, Or.inl rfl, i_C, to_C, no_C, Or.inr (Or.inr (Or.inr (Or.inr (Or.inl ⟨rfl, rfl, rfl, rfl⟩))))⟩
  · cases h
def lc_C : Nat → Option Int32 := fun x => match x with
  | _ => none
set_option maxRecDepth 100000 in
theorem lck_C : ∀ x v, lc_C x = some v → Cond.constant "DoorActs$Clash" x v ∈ tb := by
  intro x v h
  unfold lc_C at h
  split at h
  · cases h
def ll_C : Nat → Option Int64 := fun x => match x with
  | _ => none
set_option maxRecDepth 100000 in
theorem llk_C : ∀ x v, ll_C x = some v → Cond.constantLong "DoorActs$Clash" x v ∈ tb := by
  intro x v h
  unfold ll_C at h
  split at h
  · cases h
theorem lk_C : zlk "DoorActs$Clash" fl_C lc_C ll_C := ⟨fk_C, lck_C, llk_C⟩
def fl_N : Nat → Option (Nat × Nat × Nat) := fun x => match x with
  | 9 => some (3, 0, 13)
  | 15 => some (3, 1, 0)
  | _ => none
theorem fl_N_9 : fl_N 9 = some (3, 0, 13) := rfl
theorem fl_N_15 : fl_N 15 = some (3, 1, 0) := rfl
set_option maxRecDepth 100000 in
theorem fk_N : zfl "DoorActs$Consents" fl_N := by
  intro x ci f kd h
  unfold fl_N at h
  split at h
  · cases h
    exact ⟨(R_N, T_N, 2), "DoorActs$Consents", t_N, rfl, by decide, tb_1 58 rfl rfl, Or.inl rfl, i_N, to_N, no_N, Or.inr (Or.inr (Or.inr (Or.inr (Or.inr (Or.inr (Or.inr (Or.inl ⟨rfl, by first | exact Or.inl ⟨_, rfl⟩ | exact Or.inr ⟨_, rfl⟩, rfl, rfl⟩)))))))⟩
  · cases h
    exact ⟨(R_N, T_N, 2), "DoorActs$Consents", t_N, rfl, by decide, tb_1 59 rfl rfl, Or.inl rfl, i_N, to_N, no_N, Or.inl ⟨rfl, rfl, rfl⟩⟩
  · cases h
def lc_N : Nat → Option Int32 := fun x => match x with
  | _ => none
set_option maxRecDepth 100000 in
theorem lck_N : ∀ x v, lc_N x = some v → Cond.constant "DoorActs$Consents" x v ∈ tb := by
  intro x v h
  unfold lc_N at h
  split at h
  · cases h
def ll_N : Nat → Option Int64 := fun x => match x with
  | _ => none
set_option maxRecDepth 100000 in
theorem llk_N : ∀ x v, ll_N x = some v → Cond.constantLong "DoorActs$Consents" x v ∈ tb := by
  intro x v h
  unfold ll_N at h
  split at h
  · cases h
theorem lk_N : zlk "DoorActs$Consents" fl_N lc_N ll_N := ⟨fk_N, lck_N, llk_N⟩
def fl_V : Nat → Option (Nat × Nat × Nat) := fun x => match x with
  | 7 => some (4, 0, 2)
  | 13 => some (4, 1, 1)
  | 20 => some (4, 2, 13)
  | 24 => some (4, 3, 13)
  | 27 => some (6, 0, 20)
  | 48 => some (6, 3, 20)
  | _ => none
theorem fl_V_7 : fl_V 7 = some (4, 0, 2) := rfl
theorem fl_V_13 : fl_V 13 = some (4, 1, 1) := rfl
theorem fl_V_20 : fl_V 20 = some (4, 2, 13) := rfl
theorem fl_V_24 : fl_V 24 = some (4, 3, 13) := rfl
theorem fl_V_27 : fl_V 27 = some (6, 0, 20) := rfl
theorem fl_V_48 : fl_V 48 = some (6, 3, 20) := rfl
set_option maxRecDepth 100000 in
theorem fk_V : zfl "DoorActs$Device" fl_V := by
  intro x ci f kd h
  unfold fl_V at h
  split at h
  · cases h
    exact ⟨(R_V, T_V, 4), "DoorActs$Device", t_V, rfl, by decide, tb_1 75 rfl rfl, Or.inl rfl, i_V, to_V, no_V, Or.inr (Or.inr (Or.inl ⟨rfl, rfl, rfl⟩))⟩
  · cases h
    exact ⟨(R_V, T_V, 4), "DoorActs$Device", t_V, rfl, by decide, tb_1 77 rfl rfl, Or.inl rfl, i_V, to_V, no_V, Or.inr (Or.inl ⟨rfl, rfl, rfl⟩)⟩
  · cases h
    exact ⟨(R_V, T_V, 4), "DoorActs$Device", t_V, rfl, by decide, tb_1 79 rfl rfl, Or.inl rfl, i_V, to_V, no_V, Or.inr (Or.inr (Or.inr (Or.inr (Or.inr (Or.inr (Or.inr (Or.inl ⟨rfl, by first | exact Or.inl ⟨_, rfl⟩ | exact Or.inr ⟨_, rfl⟩, rfl, rfl⟩)))))))⟩
  · cases h
    exact ⟨(R_V, T_V, 4), "DoorActs$Device", t_V, rfl, by decide, tb_1 81 rfl rfl, Or.inl rfl, i_V, to_V, no_V, Or.inr (Or.inr (Or.inr (Or.inr (Or.inr (Or.inr (Or.inr (Or.inl ⟨rfl, by first | exact Or.inl ⟨_, rfl⟩ | exact Or.inr ⟨_, rfl⟩, rfl, rfl⟩)))))))⟩
  · cases h
    exact ⟨(R_I, T_I, 5), "DoorActs$Item", t_I, rfl, by decide, tb_1 171 rfl rfl, Or.inl rfl, i_I, to_I, no_I, Or.inr (Or.inr (Or.inr (Or.inr (Or.inr (Or.inr (Or.inr (Or.inr (rfl))))))))⟩
  · cases h
    exact ⟨(R_I, T_I, 5), "DoorActs$Item", t_I, rfl, by decide, tb_1 178 rfl rfl, Or.inl rfl, i_I, to_I, no_I, Or.inr (Or.inr (Or.inr (Or.inr (Or.inr (Or.inr (Or.inr (Or.inr (rfl))))))))⟩
  · cases h
def lc_V : Nat → Option Int32 := fun x => match x with
  | _ => none
set_option maxRecDepth 100000 in
theorem lck_V : ∀ x v, lc_V x = some v → Cond.constant "DoorActs$Device" x v ∈ tb := by
  intro x v h
  unfold lc_V at h
  split at h
  · cases h
def ll_V : Nat → Option Int64 := fun x => match x with
  | _ => none
set_option maxRecDepth 100000 in
theorem llk_V : ∀ x v, ll_V x = some v → Cond.constantLong "DoorActs$Device" x v ∈ tb := by
  intro x v h
  unfold ll_V at h
  split at h
  · cases h
theorem lk_V : zlk "DoorActs$Device" fl_V lc_V ll_V := ⟨fk_V, lck_V, llk_V⟩
def fl_F : Nat → Option (Nat × Nat × Nat) := fun x => match x with
  | 9 => some (5, 0, 0)
  | 15 => some (5, 1, 0)
  | 18 => some (5, 2, 2)
  | 22 => some (5, 3, 0)
  | 25 => some (5, 4, 0)
  | 28 => some (5, 5, 0)
  | 31 => some (5, 6, 0)
  | 34 => some (5, 7, 0)
  | 37 => some (5, 8, 0)
  | 40 => some (5, 9, 0)
  | 43 => some (5, 10, 0)
  | 50 => some (1, 1, 20)
  | 55 => some (1, 2, 20)
  | 58 => some (1, 5, 20)
  | 69 => some (1, 4, 20)
  | 72 => some (1, 3, 20)
  | _ => none
theorem fl_F_9 : fl_F 9 = some (5, 0, 0) := rfl
theorem fl_F_15 : fl_F 15 = some (5, 1, 0) := rfl
theorem fl_F_18 : fl_F 18 = some (5, 2, 2) := rfl
theorem fl_F_22 : fl_F 22 = some (5, 3, 0) := rfl
theorem fl_F_25 : fl_F 25 = some (5, 4, 0) := rfl
theorem fl_F_28 : fl_F 28 = some (5, 5, 0) := rfl
theorem fl_F_31 : fl_F 31 = some (5, 6, 0) := rfl
theorem fl_F_34 : fl_F 34 = some (5, 7, 0) := rfl
theorem fl_F_37 : fl_F 37 = some (5, 8, 0) := rfl
theorem fl_F_40 : fl_F 40 = some (5, 9, 0) := rfl
theorem fl_F_43 : fl_F 43 = some (5, 10, 0) := rfl
theorem fl_F_50 : fl_F 50 = some (1, 1, 20) := rfl
theorem fl_F_55 : fl_F 55 = some (1, 2, 20) := rfl
theorem fl_F_58 : fl_F 58 = some (1, 5, 20) := rfl
theorem fl_F_69 : fl_F 69 = some (1, 4, 20) := rfl
theorem fl_F_72 : fl_F 72 = some (1, 3, 20) := rfl
set_option maxRecDepth 100000 in
theorem fk_F : zfl "DoorActs$Facts" fl_F := by
  intro x ci f kd h
  unfold fl_F at h
  split at h
  · cases h
    exact ⟨(R_F, T_F, 11), "DoorActs$Facts", t_F, rfl, by decide, tb_1 130 rfl rfl, Or.inl rfl, i_F, to_F, no_F, Or.inl ⟨rfl, rfl, rfl⟩⟩
  · cases h
    exact ⟨(R_F, T_F, 11), "DoorActs$Facts", t_F, rfl, by decide, tb_1 132 rfl rfl, Or.inl rfl, i_F, to_F, no_F, Or.inl ⟨rfl, rfl, rfl⟩⟩
  · cases h
    exact ⟨(R_F, T_F, 11), "DoorActs$Facts", t_F, rfl, by decide, tb_1 133 rfl rfl, Or.inl rfl, i_F, to_F, no_F, Or.inr (Or.inr (Or.inl ⟨rfl, rfl, rfl⟩))⟩
  · cases h
    exact ⟨(R_F, T_F, 11), "DoorActs$Facts", t_F, rfl, by decide, tb_1 135 rfl rfl, Or.inl rfl, i_F, to_F, no_F, Or.inl ⟨rfl, rfl, rfl⟩⟩
  · cases h
    exact ⟨(R_F, T_F, 11), "DoorActs$Facts", t_F, rfl, by decide, tb_1 137 rfl rfl, Or.inl rfl, i_F, to_F, no_F, Or.inl ⟨rfl, rfl, rfl⟩⟩
  · cases h
    exact ⟨(R_F, T_F, 11), "DoorActs$Facts", t_F, rfl, by decide, tb_1 138 rfl rfl, Or.inl rfl, i_F, to_F, no_F, Or.inl ⟨rfl, rfl, rfl⟩⟩
  · cases h
    exact ⟨(R_F, T_F, 11), "DoorActs$Facts", t_F, rfl, by decide, tb_1 139 rfl rfl, Or.inl rfl, i_F, to_F, no_F, Or.inl ⟨rfl, rfl, rfl⟩⟩
  · cases h
    exact ⟨(R_F, T_F, 11), "DoorActs$Facts", t_F, rfl, by decide, tb_1 140 rfl rfl, Or.inl rfl, i_F, to_F, no_F, Or.inl ⟨rfl, rfl, rfl⟩⟩
  · cases h
    exact ⟨(R_F, T_F, 11), "DoorActs$Facts", t_F, rfl, by decide, tb_1 141 rfl rfl, Or.inl rfl, i_F, to_F, no_F, Or.inl ⟨rfl, rfl, rfl⟩⟩
  · cases h
    exact ⟨(R_F, T_F, 11), "DoorActs$Facts", t_F, rfl, by decide, tb_1 143 rfl rfl, Or.inl rfl, i_F, to_F, no_F, Or.inl ⟨rfl, rfl, rfl⟩⟩
  · cases h
    exact ⟨(R_F, T_F, 11), "DoorActs$Facts", t_F, rfl, by decide, tb_1 145 rfl rfl, Or.inl rfl, i_F, to_F, no_F, Or.inl ⟨rfl, rfl, rfl⟩⟩
  · cases h
    exact ⟨(R_A, T_A, 6), "DoorActs$Act", t_A, rfl, by decide, tb_2 101 rfl rfl, Or.inl rfl, i_A, to_A, no_A, Or.inr (Or.inr (Or.inr (Or.inr (Or.inr (Or.inr (Or.inr (Or.inr (rfl))))))))⟩
  · cases h
    exact ⟨(R_A, T_A, 6), "DoorActs$Act", t_A, rfl, by decide, tb_2 104 rfl rfl, Or.inl rfl, i_A, to_A, no_A, Or.inr (Or.inr (Or.inr (Or.inr (Or.inr (Or.inr (Or.inr (Or.inr (rfl))))))))⟩
  · cases h
    exact ⟨(R_A, T_A, 6), "DoorActs$Act", t_A, rfl, by decide, tb_2 111 rfl rfl, Or.inl rfl, i_A, to_A, no_A, Or.inr (Or.inr (Or.inr (Or.inr (Or.inr (Or.inr (Or.inr (Or.inr (rfl))))))))⟩
  · cases h
    exact ⟨(R_A, T_A, 6), "DoorActs$Act", t_A, rfl, by decide, tb_2 109 rfl rfl, Or.inl rfl, i_A, to_A, no_A, Or.inr (Or.inr (Or.inr (Or.inr (Or.inr (Or.inr (Or.inr (Or.inr (rfl))))))))⟩
  · cases h
    exact ⟨(R_A, T_A, 6), "DoorActs$Act", t_A, rfl, by decide, tb_2 107 rfl rfl, Or.inl rfl, i_A, to_A, no_A, Or.inr (Or.inr (Or.inr (Or.inr (Or.inr (Or.inr (Or.inr (Or.inr (rfl))))))))⟩
  · cases h
def lc_F : Nat → Option Int32 := fun x => match x with
  | _ => none
set_option maxRecDepth 100000 in
theorem lck_F : ∀ x v, lc_F x = some v → Cond.constant "DoorActs$Facts" x v ∈ tb := by
  intro x v h
  unfold lc_F at h
  split at h
  · cases h
def ll_F : Nat → Option Int64 := fun x => match x with
  | _ => none
set_option maxRecDepth 100000 in
theorem llk_F : ∀ x v, ll_F x = some v → Cond.constantLong "DoorActs$Facts" x v ∈ tb := by
  intro x v h
  unfold ll_F at h
  split at h
  · cases h
theorem lk_F : zlk "DoorActs$Facts" fl_F lc_F ll_F := ⟨fk_F, lck_F, llk_F⟩
def fl_I : Nat → Option (Nat × Nat × Nat) := fun x => match x with
  | 12 => some (6, 3, 13)
  | 18 => some (6, 0, 10)
  | 22 => some (6, 1, 10)
  | 25 => some (6, 2, 10)
  | 28 => some (6, 4, 0)
  | _ => none
theorem fl_I_12 : fl_I 12 = some (6, 3, 13) := rfl
theorem fl_I_18 : fl_I 18 = some (6, 0, 10) := rfl
theorem fl_I_22 : fl_I 22 = some (6, 1, 10) := rfl
theorem fl_I_25 : fl_I 25 = some (6, 2, 10) := rfl
theorem fl_I_28 : fl_I 28 = some (6, 4, 0) := rfl
set_option maxRecDepth 100000 in
theorem fk_I : zfl "DoorActs$Item" fl_I := by
  intro x ci f kd h
  unfold fl_I at h
  split at h
  · cases h
    exact ⟨(R_I, T_I, 5), "DoorActs$Item", t_I, rfl, by decide, tb_1 177 rfl rfl, Or.inl rfl, i_I, to_I, no_I, Or.inr (Or.inr (Or.inr (Or.inr (Or.inr (Or.inr (Or.inr (Or.inl ⟨rfl, by first | exact Or.inl ⟨_, rfl⟩ | exact Or.inr ⟨_, rfl⟩, rfl, rfl⟩)))))))⟩
  · cases h
    exact ⟨(R_I, T_I, 5), "DoorActs$Item", t_I, rfl, by decide, tb_1 170 rfl rfl, Or.inl rfl, i_I, to_I, no_I, Or.inr (Or.inr (Or.inr (Or.inr (Or.inl ⟨rfl, rfl, rfl, rfl⟩))))⟩
  · cases h
    exact ⟨(R_I, T_I, 5), "DoorActs$Item", t_I, rfl, by decide, tb_1 173 rfl rfl, Or.inl rfl, i_I, to_I, no_I, Or.inr (Or.inr (Or.inr (Or.inr (Or.inl ⟨rfl, rfl, rfl, rfl⟩))))⟩
  · cases h
    exact ⟨(R_I, T_I, 5), "DoorActs$Item", t_I, rfl, by decide, tb_1 175 rfl rfl, Or.inl rfl, i_I, to_I, no_I, Or.inr (Or.inr (Or.inr (Or.inr (Or.inl ⟨rfl, rfl, rfl, rfl⟩))))⟩
  · cases h
    exact ⟨(R_I, T_I, 5), "DoorActs$Item", t_I, rfl, by decide, tb_1 180 rfl rfl, Or.inl rfl, i_I, to_I, no_I, Or.inl ⟨rfl, rfl, rfl⟩⟩
  · cases h
def lc_I : Nat → Option Int32 := fun x => match x with
  | _ => none
set_option maxRecDepth 100000 in
theorem lck_I : ∀ x v, lc_I x = some v → Cond.constant "DoorActs$Item" x v ∈ tb := by
  intro x v h
  unfold lc_I at h
  split at h
  · cases h
def ll_I : Nat → Option Int64 := fun x => match x with
  | _ => none
set_option maxRecDepth 100000 in
theorem llk_I : ∀ x v, ll_I x = some v → Cond.constantLong "DoorActs$Item" x v ∈ tb := by
  intro x v h
  unfold ll_I at h
  split at h
  · cases h
theorem lk_I : zlk "DoorActs$Item" fl_I lc_I ll_I := ⟨fk_I, lck_I, llk_I⟩
def fl_W : Nat → Option (Nat × Nat × Nat) := fun x => match x with
  | _ => none
set_option maxRecDepth 100000 in
theorem fk_W : zfl "DoorActsLaw" fl_W := by
  intro x ci f kd h
  unfold fl_W at h
  split at h
  · cases h
def lc_W : Nat → Option Int32 := fun x => match x with
  | _ => none
set_option maxRecDepth 100000 in
theorem lck_W : ∀ x v, lc_W x = some v → Cond.constant "DoorActsLaw" x v ∈ tb := by
  intro x v h
  unfold lc_W at h
  split at h
  · cases h
def ll_W : Nat → Option Int64 := fun x => match x with
  | 23 => some (4294967295)
  | _ => none
theorem ll_W_23 : ll_W 23 = some (4294967295) := rfl
set_option maxRecDepth 100000 in
theorem llk_W : ∀ x v, ll_W x = some v → Cond.constantLong "DoorActsLaw" x v ∈ tb := by
  intro x v h
  unfold ll_W at h
  split at h
  · cases h
    exact tb_3 185 rfl rfl
  · cases h
theorem lk_W : zlk "DoorActsLaw" fl_W lc_W ll_W := ⟨fk_W, lck_W, llk_W⟩
def fl_M : Nat → Option (Nat × Nat × Nat) := fun x => match x with
  | 7 => some (8, 1, 13)
  | 13 => some (8, 2, 13)
  | 16 => some (8, 3, 13)
  | 20 => some (8, 4, 13)
  | 23 => some (8, 5, 13)
  | 27 => some (8, 6, 13)
  | 30 => some (8, 7, 13)
  | 33 => some (8, 8, 13)
  | 36 => some (8, 9, 13)
  | 39 => some (8, 10, 13)
  | 42 => some (8, 11, 13)
  | 45 => some (8, 12, 13)
  | 48 => some (8, 13, 13)
  | 51 => some (8, 14, 13)
  | 54 => some (8, 15, 13)
  | 57 => some (8, 17, 13)
  | 60 => some (8, 18, 13)
  | 63 => some (8, 19, 13)
  | 66 => some (8, 20, 13)
  | 69 => some (8, 21, 13)
  | 72 => some (8, 22, 13)
  | 75 => some (8, 23, 13)
  | 78 => some (8, 24, 13)
  | 81 => some (8, 25, 13)
  | 84 => some (8, 26, 13)
  | 87 => some (8, 27, 13)
  | 90 => some (8, 28, 13)
  | 93 => some (8, 30, 13)
  | 96 => some (8, 31, 13)
  | 99 => some (8, 32, 13)
  | 102 => some (8, 0, 0)
  | 114 => some (8, 16, 0)
  | 170 => some (8, 29, 0)
  | 173 => some (8, 33, 1)
  | _ => none
theorem fl_M_7 : fl_M 7 = some (8, 1, 13) := rfl
theorem fl_M_13 : fl_M 13 = some (8, 2, 13) := rfl
theorem fl_M_16 : fl_M 16 = some (8, 3, 13) := rfl
theorem fl_M_20 : fl_M 20 = some (8, 4, 13) := rfl
theorem fl_M_23 : fl_M 23 = some (8, 5, 13) := rfl
theorem fl_M_27 : fl_M 27 = some (8, 6, 13) := rfl
theorem fl_M_30 : fl_M 30 = some (8, 7, 13) := rfl
theorem fl_M_33 : fl_M 33 = some (8, 8, 13) := rfl
theorem fl_M_36 : fl_M 36 = some (8, 9, 13) := rfl
theorem fl_M_39 : fl_M 39 = some (8, 10, 13) := rfl
theorem fl_M_42 : fl_M 42 = some (8, 11, 13) := rfl
theorem fl_M_45 : fl_M 45 = some (8, 12, 13) := rfl
theorem fl_M_48 : fl_M 48 = some (8, 13, 13) := rfl
theorem fl_M_51 : fl_M 51 = some (8, 14, 13) := rfl
theorem fl_M_54 : fl_M 54 = some (8, 15, 13) := rfl
theorem fl_M_57 : fl_M 57 = some (8, 17, 13) := rfl
theorem fl_M_60 : fl_M 60 = some (8, 18, 13) := rfl
theorem fl_M_63 : fl_M 63 = some (8, 19, 13) := rfl
theorem fl_M_66 : fl_M 66 = some (8, 20, 13) := rfl
theorem fl_M_69 : fl_M 69 = some (8, 21, 13) := rfl
theorem fl_M_72 : fl_M 72 = some (8, 22, 13) := rfl
theorem fl_M_75 : fl_M 75 = some (8, 23, 13) := rfl
theorem fl_M_78 : fl_M 78 = some (8, 24, 13) := rfl
theorem fl_M_81 : fl_M 81 = some (8, 25, 13) := rfl
theorem fl_M_84 : fl_M 84 = some (8, 26, 13) := rfl
theorem fl_M_87 : fl_M 87 = some (8, 27, 13) := rfl
theorem fl_M_90 : fl_M 90 = some (8, 28, 13) := rfl
theorem fl_M_93 : fl_M 93 = some (8, 30, 13) := rfl
theorem fl_M_96 : fl_M 96 = some (8, 31, 13) := rfl
theorem fl_M_99 : fl_M 99 = some (8, 32, 13) := rfl
theorem fl_M_102 : fl_M 102 = some (8, 0, 0) := rfl
theorem fl_M_114 : fl_M 114 = some (8, 16, 0) := rfl
theorem fl_M_170 : fl_M 170 = some (8, 29, 0) := rfl
theorem fl_M_173 : fl_M 173 = some (8, 33, 1) := rfl
set_option maxRecDepth 100000 in
theorem fk_M : zfl "DoorActsModel" fl_M := by
  intro x ci f kd h
  unfold fl_M at h
  split at h
  · cases h
    exact ⟨(R_M, T_M, 34), "DoorActsModel", t_M, rfl, by decide, tb_2 225 rfl rfl, Or.inl rfl, i_M, to_M, no_M, Or.inr (Or.inr (Or.inr (Or.inr (Or.inr (Or.inr (Or.inr (Or.inl ⟨rfl, by first | exact Or.inl ⟨_, rfl⟩ | exact Or.inr ⟨_, rfl⟩, rfl, rfl⟩)))))))⟩
  · cases h
    exact ⟨(R_M, T_M, 34), "DoorActsModel", t_M, rfl, by decide, tb_2 226 rfl rfl, Or.inl rfl, i_M, to_M, no_M, Or.inr (Or.inr (Or.inr (Or.inr (Or.inr (Or.inr (Or.inr (Or.inl ⟨rfl, by first | exact Or.inl ⟨_, rfl⟩ | exact Or.inr ⟨_, rfl⟩, rfl, rfl⟩)))))))⟩
  · cases h
    exact ⟨(R_M, T_M, 34), "DoorActsModel", t_M, rfl, by decide, tb_2 227 rfl rfl, Or.inl rfl, i_M, to_M, no_M, Or.inr (Or.inr (Or.inr (Or.inr (Or.inr (Or.inr (Or.inr (Or.inl ⟨rfl, by first | exact Or.inl ⟨_, rfl⟩ | exact Or.inr ⟨_, rfl⟩, rfl, rfl⟩)))))))⟩
  · cases h
    exact ⟨(R_M, T_M, 34), "DoorActsModel", t_M, rfl, by decide, tb_2 228 rfl rfl, Or.inl rfl, i_M, to_M, no_M, Or.inr (Or.inr (Or.inr (Or.inr (Or.inr (Or.inr (Or.inr (Or.inl ⟨rfl, by first | exact Or.inl ⟨_, rfl⟩ | exact Or.inr ⟨_, rfl⟩, rfl, rfl⟩)))))))⟩
  · cases h
    exact ⟨(R_M, T_M, 34), "DoorActsModel", t_M, rfl, by decide, tb_2 229 rfl rfl, Or.inl rfl, i_M, to_M, no_M, Or.inr (Or.inr (Or.inr (Or.inr (Or.inr (Or.inr (Or.inr (Or.inl ⟨rfl, by first | exact Or.inl ⟨_, rfl⟩ | exact Or.inr ⟨_, rfl⟩, rfl, rfl⟩)))))))⟩
  · cases h
    exact ⟨(R_M, T_M, 34), "DoorActsModel", t_M, rfl, by decide, tb_2 230 rfl rfl, Or.inl rfl, i_M, to_M, no_M, Or.inr (Or.inr (Or.inr (Or.inr (Or.inr (Or.inr (Or.inr (Or.inl ⟨rfl, by first | exact Or.inl ⟨_, rfl⟩ | exact Or.inr ⟨_, rfl⟩, rfl, rfl⟩)))))))⟩
  · cases h
    exact ⟨(R_M, T_M, 34), "DoorActsModel", t_M, rfl, by decide, tb_2 231 rfl rfl, Or.inl rfl, i_M, to_M, no_M, Or.inr (Or.inr (Or.inr (Or.inr (Or.inr (Or.inr (Or.inr (Or.inl ⟨rfl, by first | exact Or.inl ⟨_, rfl⟩ | exact Or.inr ⟨_, rfl⟩, rfl, rfl⟩)))))))⟩
  · cases h
    exact ⟨(R_M, T_M, 34), "DoorActsModel", t_M, rfl, by decide, tb_2 232 rfl rfl, Or.inl rfl, i_M, to_M, no_M, Or.inr (Or.inr (Or.inr (Or.inr (Or.inr (Or.inr (Or.inr (Or.inl ⟨rfl, by first | exact Or.inl ⟨_, rfl⟩ | exact Or.inr ⟨_, rfl⟩, rfl, rfl⟩)))))))⟩
  · cases h
    exact ⟨(R_M, T_M, 34), "DoorActsModel", t_M, rfl, by decide, tb_2 233 rfl rfl, Or.inl rfl, i_M, to_M, no_M, Or.inr (Or.inr (Or.inr (Or.inr (Or.inr (Or.inr (Or.inr (Or.inl ⟨rfl, by first | exact Or.inl ⟨_, rfl⟩ | exact Or.inr ⟨_, rfl⟩, rfl, rfl⟩)))))))⟩
  · cases h
    exact ⟨(R_M, T_M, 34), "DoorActsModel", t_M, rfl, by decide, tb_2 234 rfl rfl, Or.inl rfl, i_M, to_M, no_M, Or.inr (Or.inr (Or.inr (Or.inr (Or.inr (Or.inr (Or.inr (Or.inl ⟨rfl, by first | exact Or.inl ⟨_, rfl⟩ | exact Or.inr ⟨_, rfl⟩, rfl, rfl⟩)))))))⟩
  · cases h
    exact ⟨(R_M, T_M, 34), "DoorActsModel", t_M, rfl, by decide, tb_2 235 rfl rfl, Or.inl rfl, i_M, to_M, no_M, Or.inr (Or.inr (Or.inr (Or.inr (Or.inr (Or.inr (Or.inr (Or.inl ⟨rfl, by first | exact Or.inl ⟨_, rfl⟩ | exact Or.inr ⟨_, rfl⟩, rfl, rfl⟩)))))))⟩
  · cases h
    exact ⟨(R_M, T_M, 34), "DoorActsModel", t_M, rfl, by decide, tb_2 236 rfl rfl, Or.inl rfl, i_M, to_M, no_M, Or.inr (Or.inr (Or.inr (Or.inr (Or.inr (Or.inr (Or.inr (Or.inl ⟨rfl, by first | exact Or.inl ⟨_, rfl⟩ | exact Or.inr ⟨_, rfl⟩, rfl, rfl⟩)))))))⟩
  · cases h
    exact ⟨(R_M, T_M, 34), "DoorActsModel", t_M, rfl, by decide, tb_2 237 rfl rfl, Or.inl rfl, i_M, to_M, no_M, Or.inr (Or.inr (Or.inr (Or.inr (Or.inr (Or.inr (Or.inr (Or.inl ⟨rfl, by first | exact Or.inl ⟨_, rfl⟩ | exact Or.inr ⟨_, rfl⟩, rfl, rfl⟩)))))))⟩
  · cases h
    exact ⟨(R_M, T_M, 34), "DoorActsModel", t_M, rfl, by decide, tb_2 238 rfl rfl, Or.inl rfl, i_M, to_M, no_M, Or.inr (Or.inr (Or.inr (Or.inr (Or.inr (Or.inr (Or.inr (Or.inl ⟨rfl, by first | exact Or.inl ⟨_, rfl⟩ | exact Or.inr ⟨_, rfl⟩, rfl, rfl⟩)))))))⟩
  · cases h
    exact ⟨(R_M, T_M, 34), "DoorActsModel", t_M, rfl, by decide, tb_2 239 rfl rfl, Or.inl rfl, i_M, to_M, no_M, Or.inr (Or.inr (Or.inr (Or.inr (Or.inr (Or.inr (Or.inr (Or.inl ⟨rfl, by first | exact Or.inl ⟨_, rfl⟩ | exact Or.inr ⟨_, rfl⟩, rfl, rfl⟩)))))))⟩
  · cases h
    exact ⟨(R_M, T_M, 34), "DoorActsModel", t_M, rfl, by decide, tb_3 1 rfl rfl, Or.inl rfl, i_M, to_M, no_M, Or.inr (Or.inr (Or.inr (Or.inr (Or.inr (Or.inr (Or.inr (Or.inl ⟨rfl, by first | exact Or.inl ⟨_, rfl⟩ | exact Or.inr ⟨_, rfl⟩, rfl, rfl⟩)))))))⟩
  · cases h
    exact ⟨(R_M, T_M, 34), "DoorActsModel", t_M, rfl, by decide, tb_3 2 rfl rfl, Or.inl rfl, i_M, to_M, no_M, Or.inr (Or.inr (Or.inr (Or.inr (Or.inr (Or.inr (Or.inr (Or.inl ⟨rfl, by first | exact Or.inl ⟨_, rfl⟩ | exact Or.inr ⟨_, rfl⟩, rfl, rfl⟩)))))))⟩
  · cases h
    exact ⟨(R_M, T_M, 34), "DoorActsModel", t_M, rfl, by decide, tb_3 3 rfl rfl, Or.inl rfl, i_M, to_M, no_M, Or.inr (Or.inr (Or.inr (Or.inr (Or.inr (Or.inr (Or.inr (Or.inl ⟨rfl, by first | exact Or.inl ⟨_, rfl⟩ | exact Or.inr ⟨_, rfl⟩, rfl, rfl⟩)))))))⟩
  · cases h
    exact ⟨(R_M, T_M, 34), "DoorActsModel", t_M, rfl, by decide, tb_3 4 rfl rfl, Or.inl rfl, i_M, to_M, no_M, Or.inr (Or.inr (Or.inr (Or.inr (Or.inr (Or.inr (Or.inr (Or.inl ⟨rfl, by first | exact Or.inl ⟨_, rfl⟩ | exact Or.inr ⟨_, rfl⟩, rfl, rfl⟩)))))))⟩
  · cases h
    exact ⟨(R_M, T_M, 34), "DoorActsModel", t_M, rfl, by decide, tb_3 5 rfl rfl, Or.inl rfl, i_M, to_M, no_M, Or.inr (Or.inr (Or.inr (Or.inr (Or.inr (Or.inr (Or.inr (Or.inl ⟨rfl, by first | exact Or.inl ⟨_, rfl⟩ | exact Or.inr ⟨_, rfl⟩, rfl, rfl⟩)))))))⟩
  · cases h
    exact ⟨(R_M, T_M, 34), "DoorActsModel", t_M, rfl, by decide, tb_3 6 rfl rfl, Or.inl rfl, i_M, to_M, no_M, Or.inr (Or.inr (Or.inr (Or.inr (Or.inr (Or.inr (Or.inr (Or.inl ⟨rfl, by first | exact Or.inl ⟨_, rfl⟩ | exact Or.inr ⟨_, rfl⟩, rfl, rfl⟩)))))))⟩
  · cases h
    exact ⟨(R_M, T_M, 34), "DoorActsModel", t_M, rfl, by decide, tb_3 7 rfl rfl, Or.inl rfl, i_M, to_M, no_M, Or.inr (Or.inr (Or.inr (Or.inr (Or.inr (Or.inr (Or.inr (Or.inl ⟨rfl, by first | exact Or.inl ⟨_, rfl⟩ | exact Or.inr ⟨_, rfl⟩, rfl, rfl⟩)))))))⟩
  · cases h
    exact ⟨(R_M, T_M, 34), "DoorActsModel", t_M, rfl, by decide, tb_3 8 rfl rfl, Or.inl rfl, i_M, to_M, no_M, Or.inr (Or.inr (Or.inr (Or.inr (Or.inr (Or.inr (Or.inr (Or.inl ⟨rfl, by first | exact Or.inl ⟨_, rfl⟩ | exact Or.inr ⟨_, rfl⟩, rfl, rfl⟩)))))))⟩
  · cases h
    exact ⟨(R_M, T_M, 34), "DoorActsModel", t_M, rfl, by decide, tb_3 9 rfl rfl, Or.inl rfl, i_M, to_M, no_M, Or.inr (Or.inr (Or.inr (Or.inr (Or.inr (Or.inr (Or.inr (Or.inl ⟨rfl, by first | exact Or.inl ⟨_, rfl⟩ | exact Or.inr ⟨_, rfl⟩, rfl, rfl⟩)))))))⟩
  · cases h
    exact ⟨(R_M, T_M, 34), "DoorActsModel", t_M, rfl, by decide, tb_3 10 rfl rfl, Or.inl rfl, i_M, to_M, no_M, Or.inr (Or.inr (Or.inr (Or.inr (Or.inr (Or.inr (Or.inr (Or.inl ⟨rfl, by first | exact Or.inl ⟨_, rfl⟩ | exact Or.inr ⟨_, rfl⟩, rfl, rfl⟩)))))))⟩
  · cases h
    exact ⟨(R_M, T_M, 34), "DoorActsModel", t_M, rfl, by decide, tb_3 11 rfl rfl, Or.inl rfl, i_M, to_M, no_M, Or.inr (Or.inr (Or.inr (Or.inr (Or.inr (Or.inr (Or.inr (Or.inl ⟨rfl, by first | exact Or.inl ⟨_, rfl⟩ | exact Or.inr ⟨_, rfl⟩, rfl, rfl⟩)))))))⟩
  · cases h
    exact ⟨(R_M, T_M, 34), "DoorActsModel", t_M, rfl, by decide, tb_3 12 rfl rfl, Or.inl rfl, i_M, to_M, no_M, Or.inr (Or.inr (Or.inr (Or.inr (Or.inr (Or.inr (Or.inr (Or.inl ⟨rfl, by first | exact Or.inl ⟨_, rfl⟩ | exact Or.inr ⟨_, rfl⟩, rfl, rfl⟩)))))))⟩
  · cases h
    exact ⟨(R_M, T_M, 34), "DoorActsModel", t_M, rfl, by decide, tb_3 14 rfl rfl, Or.inl rfl, i_M, to_M, no_M, Or.inr (Or.inr (Or.inr (Or.inr (Or.inr (Or.inr (Or.inr (Or.inl ⟨rfl, by first | exact Or.inl ⟨_, rfl⟩ | exact Or.inr ⟨_, rfl⟩, rfl, rfl⟩)))))))⟩
  · cases h
    exact ⟨(R_M, T_M, 34), "DoorActsModel", t_M, rfl, by decide, tb_3 15 rfl rfl, Or.inl rfl, i_M, to_M, no_M, Or.inr (Or.inr (Or.inr (Or.inr (Or.inr (Or.inr (Or.inr (Or.inl ⟨rfl, by first | exact Or.inl ⟨_, rfl⟩ | exact Or.inr ⟨_, rfl⟩, rfl, rfl⟩)))))))⟩
  · cases h
    exact ⟨(R_M, T_M, 34), "DoorActsModel", t_M, rfl, by decide, tb_3 16 rfl rfl, Or.inl rfl, i_M, to_M, no_M, Or.inr (Or.inr (Or.inr (Or.inr (Or.inr (Or.inr (Or.inr (Or.inl ⟨rfl, by first | exact Or.inl ⟨_, rfl⟩ | exact Or.inr ⟨_, rfl⟩, rfl, rfl⟩)))))))⟩
  · cases h
    exact ⟨(R_M, T_M, 34), "DoorActsModel", t_M, rfl, by decide, tb_2 224 rfl rfl, Or.inl rfl, i_M, to_M, no_M, Or.inl ⟨rfl, rfl, rfl⟩⟩
  · cases h
    exact ⟨(R_M, T_M, 34), "DoorActsModel", t_M, rfl, by decide, tb_3 0 rfl rfl, Or.inl rfl, i_M, to_M, no_M, Or.inl ⟨rfl, rfl, rfl⟩⟩
  · cases h
    exact ⟨(R_M, T_M, 34), "DoorActsModel", t_M, rfl, by decide, tb_3 13 rfl rfl, Or.inl rfl, i_M, to_M, no_M, Or.inl ⟨rfl, rfl, rfl⟩⟩
  · cases h
    exact ⟨(R_M, T_M, 34), "DoorActsModel", t_M, rfl, by decide, tb_3 17 rfl rfl, Or.inl rfl, i_M, to_M, no_M, Or.inr (Or.inl ⟨rfl, rfl, rfl⟩)⟩
  · cases h
def lc_M : Nat → Option Int32 := fun x => match x with
  | _ => none
set_option maxRecDepth 100000 in
theorem lck_M : ∀ x v, lc_M x = some v → Cond.constant "DoorActsModel" x v ∈ tb := by
  intro x v h
  unfold lc_M at h
  split at h
  · cases h
def ll_M : Nat → Option Int64 := fun x => match x with
  | 106 => some (5)
  | 112 => some (99)
  | 117 => some (2)
  | 150 => some (-1)
  | 152 => some (399)
  | 154 => some (1000000000)
  | 156 => some (1440)
  | 123 => some (250)
  | 141 => some (7)
  | 177 => some (1000000)
  | _ => none
theorem ll_M_106 : ll_M 106 = some (5) := rfl
theorem ll_M_112 : ll_M 112 = some (99) := rfl
theorem ll_M_117 : ll_M 117 = some (2) := rfl
theorem ll_M_150 : ll_M 150 = some (-1) := rfl
theorem ll_M_152 : ll_M 152 = some (399) := rfl
theorem ll_M_154 : ll_M 154 = some (1000000000) := rfl
theorem ll_M_156 : ll_M 156 = some (1440) := rfl
theorem ll_M_123 : ll_M 123 = some (250) := rfl
theorem ll_M_141 : ll_M 141 = some (7) := rfl
theorem ll_M_177 : ll_M 177 = some (1000000) := rfl
set_option maxRecDepth 100000 in
theorem llk_M : ∀ x v, ll_M x = some v → Cond.constantLong "DoorActsModel" x v ∈ tb := by
  intro x v h
  unfold ll_M at h
  split at h
  · cases h
    exact tb_3 93 rfl rfl
  · cases h
    exact tb_3 97 rfl rfl
  · cases h
    exact tb_3 102 rfl rfl
  · cases h
    exact tb_3 118 rfl rfl
  · cases h
    exact tb_3 119 rfl rfl
  · cases h
    exact tb_3 120 rfl rfl
  · cases h
    exact tb_3 121 rfl rfl
  · cases h
    exact tb_3 142 rfl rfl
  · cases h
    exact tb_3 151 rfl rfl
  · cases h
    exact tb_3 172 rfl rfl
  · cases h
theorem lk_M : zlk "DoorActsModel" fl_M lc_M ll_M := ⟨fk_M, lck_M, llk_M⟩
def fl_Ma : Nat → Option (Nat × Nat × Nat) := fun x => match x with
  | _ => none
set_option maxRecDepth 100000 in
theorem fk_Ma : zfl "java/lang/Math" fl_Ma := by
  intro x ci f kd h
  unfold fl_Ma at h
  split at h
  · cases h
def lc_Ma : Nat → Option Int32 := fun x => match x with
  | _ => none
set_option maxRecDepth 100000 in
theorem lck_Ma : ∀ x v, lc_Ma x = some v → Cond.constant "java/lang/Math" x v ∈ tb := by
  intro x v h
  unfold lc_Ma at h
  split at h
  · cases h
def ll_Ma : Nat → Option Int64 := fun x => match x with
  | _ => none
set_option maxRecDepth 100000 in
theorem llk_Ma : ∀ x v, ll_Ma x = some v → Cond.constantLong "java/lang/Math" x v ∈ tb := by
  intro x v h
  unfold ll_Ma at h
  split at h
  · cases h
theorem lk_Ma : zlk "java/lang/Math" fl_Ma lc_Ma ll_Ma := ⟨fk_Ma, lck_Ma, llk_Ma⟩
def fl_AC : Nat → Option (Nat × Nat × Nat) := fun x => match x with
  | _ => none
set_option maxRecDepth 100000 in
theorem fk_AC : zfl "java/util/AbstractCollection" fl_AC := by
  intro x ci f kd h
  unfold fl_AC at h
  split at h
  · cases h
def lc_AC : Nat → Option Int32 := fun x => match x with
  | _ => none
set_option maxRecDepth 100000 in
theorem lck_AC : ∀ x v, lc_AC x = some v → Cond.constant "java/util/AbstractCollection" x v ∈ tb := by
  intro x v h
  unfold lc_AC at h
  split at h
  · cases h
def ll_AC : Nat → Option Int64 := fun x => match x with
  | _ => none
set_option maxRecDepth 100000 in
theorem llk_AC : ∀ x v, ll_AC x = some v → Cond.constantLong "java/util/AbstractCollection" x v ∈ tb := by
  intro x v h
  unfold ll_AC at h
  split at h
  · cases h
theorem lk_AC : zlk "java/util/AbstractCollection" fl_AC lc_AC ll_AC := ⟨fk_AC, lck_AC, llk_AC⟩
def fl_AL : Nat → Option (Nat × Nat × Nat) := fun x => match x with
  | 7 => some (7, 2, 0)
  | _ => none
theorem fl_AL_7 : fl_AL 7 = some (7, 2, 0) := rfl
set_option maxRecDepth 100000 in
theorem fk_AL : zfl "java/util/AbstractList" fl_AL := by
  intro x ci f kd h
  unfold fl_AL at h
  split at h
  · cases h
    exact ⟨(R_L, T_L, 3), "java/util/AbstractList", t_L, rfl, by decide, tb_1 42 rfl rfl, Or.inl rfl, i_L, to_L, no_L, Or.inl ⟨rfl, rfl, rfl⟩⟩
  · cases h
def lc_AL : Nat → Option Int32 := fun x => match x with
  | _ => none
set_option maxRecDepth 100000 in
theorem lck_AL : ∀ x v, lc_AL x = some v → Cond.constant "java/util/AbstractList" x v ∈ tb := by
  intro x v h
  unfold lc_AL at h
  split at h
  · cases h
def ll_AL : Nat → Option Int64 := fun x => match x with
  | _ => none
set_option maxRecDepth 100000 in
theorem llk_AL : ∀ x v, ll_AL x = some v → Cond.constantLong "java/util/AbstractList" x v ∈ tb := by
  intro x v h
  unfold ll_AL at h
  split at h
  · cases h
theorem lk_AL : zlk "java/util/AbstractList" fl_AL lc_AL ll_AL := ⟨fk_AL, lck_AL, llk_AL⟩
def fl_L : Nat → Option (Nat × Nat × Nat) := fun x => match x with
  | 9 => some (7, 0, 3)
  | 48 => some (7, 1, 0)
  | 63 => some (7, 2, 0)
  | _ => none
theorem fl_L_9 : fl_L 9 = some (7, 0, 3) := rfl
theorem fl_L_48 : fl_L 48 = some (7, 1, 0) := rfl
theorem fl_L_63 : fl_L 63 = some (7, 2, 0) := rfl
set_option maxRecDepth 100000 in
theorem fk_L : zfl "java/util/ArrayList" fl_L := by
  intro x ci f kd h
  unfold fl_L at h
  split at h
  · cases h
    exact ⟨(R_L, T_L, 3), "java/util/ArrayList", t_L, rfl, by decide, tb_1 40 rfl rfl, Or.inl rfl, i_L, to_L, no_L, Or.inr (Or.inr (Or.inr (Or.inl ⟨rfl, by first | exact Or.inl ⟨_, rfl⟩ | exact Or.inr ⟨_, rfl⟩, rfl⟩)))⟩
  · cases h
    exact ⟨(R_L, T_L, 3), "java/util/ArrayList", t_L, rfl, by decide, tb_1 41 rfl rfl, Or.inl rfl, i_L, to_L, no_L, Or.inl ⟨rfl, rfl, rfl⟩⟩
  · cases h
    exact ⟨(R_L, T_L, 3), "java/util/ArrayList", t_L, rfl, by decide, tb_1 43 rfl rfl, Or.inr (tb_1 44 rfl rfl), i_L, to_L, no_L, Or.inl ⟨rfl, rfl, rfl⟩⟩
  · cases h
def lc_L : Nat → Option Int32 := fun x => match x with
  | _ => none
set_option maxRecDepth 100000 in
theorem lck_L : ∀ x v, lc_L x = some v → Cond.constant "java/util/ArrayList" x v ∈ tb := by
  intro x v h
  unfold lc_L at h
  split at h
  · cases h
def ll_L : Nat → Option Int64 := fun x => match x with
  | _ => none
set_option maxRecDepth 100000 in
theorem llk_L : ∀ x v, ll_L x = some v → Cond.constantLong "java/util/ArrayList" x v ∈ tb := by
  intro x v h
  unfold ll_L at h
  split at h
  · cases h
theorem lk_L : zlk "java/util/ArrayList" fl_L lc_L ll_L := ⟨fk_L, lck_L, llk_L⟩
def fl_Ar : Nat → Option (Nat × Nat × Nat) := fun x => match x with
  | _ => none
set_option maxRecDepth 100000 in
theorem fk_Ar : zfl "java/util/Arrays" fl_Ar := by
  intro x ci f kd h
  unfold fl_Ar at h
  split at h
  · cases h
def lc_Ar : Nat → Option Int32 := fun x => match x with
  | _ => none
set_option maxRecDepth 100000 in
theorem lck_Ar : ∀ x v, lc_Ar x = some v → Cond.constant "java/util/Arrays" x v ∈ tb := by
  intro x v h
  unfold lc_Ar at h
  split at h
  · cases h
def ll_Ar : Nat → Option Int64 := fun x => match x with
  | _ => none
set_option maxRecDepth 100000 in
theorem llk_Ar : ∀ x v, ll_Ar x = some v → Cond.constantLong "java/util/Arrays" x v ∈ tb := by
  intro x v h
  unfold ll_Ar at h
  split at h
  · cases h
theorem lk_Ar : zlk "java/util/Arrays" fl_Ar lc_Ar ll_Ar := ⟨fk_Ar, lck_Ar, llk_Ar⟩
def fl_Ob : Nat → Option (Nat × Nat × Nat) := fun x => match x with
  | _ => none
set_option maxRecDepth 100000 in
theorem fk_Ob : zfl "java/util/Objects" fl_Ob := by
  intro x ci f kd h
  unfold fl_Ob at h
  split at h
  · cases h
def lc_Ob : Nat → Option Int32 := fun x => match x with
  | _ => none
set_option maxRecDepth 100000 in
theorem lck_Ob : ∀ x v, lc_Ob x = some v → Cond.constant "java/util/Objects" x v ∈ tb := by
  intro x v h
  unfold lc_Ob at h
  split at h
  · cases h
def ll_Ob : Nat → Option Int64 := fun x => match x with
  | _ => none
set_option maxRecDepth 100000 in
theorem llk_Ob : ∀ x v, ll_Ob x = some v → Cond.constantLong "java/util/Objects" x v ∈ tb := by
  intro x v h
  unfold ll_Ob at h
  split at h
  · cases h
theorem lk_Ob : zlk "java/util/Objects" fl_Ob lc_Ob ll_Ob := ⟨fk_Ob, lck_Ob, llk_Ob⟩
def fl_AS : Nat → Option (Nat × Nat × Nat) := fun x => match x with
  | _ => none
set_option maxRecDepth 100000 in
theorem fk_AS : zfl "jdk/internal/util/ArraysSupport" fl_AS := by
  intro x ci f kd h
  unfold fl_AS at h
  split at h
  · cases h
def lc_AS : Nat → Option Int32 := fun x => match x with
  | 200 => some (2147483639)
  | _ => none
theorem lc_AS_200 : lc_AS 200 = some (2147483639) := rfl
set_option maxRecDepth 100000 in
theorem lck_AS : ∀ x v, lc_AS x = some v → Cond.constant "jdk/internal/util/ArraysSupport" x v ∈ tb := by
  intro x v h
  unfold lc_AS at h
  split at h
  · cases h
    exact tb_1 215 rfl rfl
  · cases h
def ll_AS : Nat → Option Int64 := fun x => match x with
  | _ => none
set_option maxRecDepth 100000 in
theorem llk_AS : ∀ x v, ll_AS x = some v → Cond.constantLong "jdk/internal/util/ArraysSupport" x v ∈ tb := by
  intro x v h
  unfold ll_AS at h
  split at h
  · cases h
theorem lk_AS : zlk "jdk/internal/util/ArraysSupport" fl_AS lc_AS ll_AS := ⟨fk_AS, lck_AS, llk_AS⟩
def fl_P : Nat → Option (Nat × Nat × Nat) := fun x => match x with
  | _ => none
set_option maxRecDepth 100000 in
theorem fk_P : zfl "jdk/internal/util/Preconditions" fl_P := by
  intro x ci f kd h
  unfold fl_P at h
  split at h
  · cases h
def lc_P : Nat → Option Int32 := fun x => match x with
  | _ => none
set_option maxRecDepth 100000 in
theorem lck_P : ∀ x v, lc_P x = some v → Cond.constant "jdk/internal/util/Preconditions" x v ∈ tb := by
  intro x v h
  unfold lc_P at h
  split at h
  · cases h
def ll_P : Nat → Option Int64 := fun x => match x with
  | _ => none
set_option maxRecDepth 100000 in
theorem llk_P : ∀ x v, ll_P x = some v → Cond.constantLong "jdk/internal/util/Preconditions" x v ∈ tb := by
  intro x v h
  unfold ll_P at h
  split at h
  · cases h
theorem lk_P : zlk "jdk/internal/util/Preconditions" fl_P lc_P ll_P := ⟨fk_P, lck_P, llk_P⟩
set_option maxRecDepth 100000 in
theorem q_D : zcl 0 (R_D, T_D, 5) t_D := ⟨rfl, i_D, to_D, tb_1 19 rfl rfl, tb_1 1 rfl rfl⟩
set_option maxRecDepth 100000 in
theorem q_A : zcl 1 (R_A, T_A, 6) t_A := ⟨rfl, i_A, to_A, tb_2 93 rfl rfl, tb_1 16 rfl rfl⟩
set_option maxRecDepth 100000 in
theorem q_C : zcl 2 (R_C, T_C, 3) t_C := ⟨rfl, i_C, to_C, tb_2 147 rfl rfl, tb_1 17 rfl rfl⟩
set_option maxRecDepth 100000 in
theorem q_N : zcl 3 (R_N, T_N, 2) t_N := ⟨rfl, i_N, to_N, tb_1 53 rfl rfl, tb_1 5 rfl rfl⟩
set_option maxRecDepth 100000 in
theorem q_V : zcl 4 (R_V, T_V, 4) t_V := ⟨rfl, i_V, to_V, tb_1 68 rfl rfl, tb_1 6 rfl rfl⟩
set_option maxRecDepth 100000 in
theorem q_F : zcl 5 (R_F, T_F, 11) t_F := ⟨rfl, i_F, to_F, tb_1 125 rfl rfl, tb_1 9 rfl rfl⟩
set_option maxRecDepth 100000 in
theorem q_I : zcl 6 (R_I, T_I, 5) t_I := ⟨rfl, i_I, to_I, tb_1 119 rfl rfl, tb_1 8 rfl rfl⟩
set_option maxRecDepth 100000 in
theorem q_L : zcl 7 (R_L, T_L, 3) t_L := ⟨rfl, i_L, to_L, tb_1 27 rfl rfl, tb_1 4 rfl rfl⟩
set_option maxRecDepth 100000 in
theorem q_M : zcl 8 (R_M, T_M, 34) t_M := ⟨rfl, i_M, to_M, tb_2 219 rfl rfl, tb_1 7 rfl rfl⟩
set_option maxRecDepth 100000 in
theorem k_D_11 : zcb "DoorActs" 11 y_L_init b_L_init 1 none 0 := ⟨tb_1 30 rfl rfl, tb_1 4 rfl rfl, tb_1 28 rfl rfl, by decide +kernel, by decide +kernel, by decide +kernel⟩
set_option maxRecDepth 100000 in
theorem n_L_init : Cond.instanceMethod y_L_init ∈ tb := tb_1 29 rfl rfl
set_option maxRecDepth 100000 in
theorem k_D_21 : zcn "DoorActs" 21 y_N_init "DoorActs" b_N_init 1 none 0 := ⟨tb_1 56 rfl rfl, tb_1 5 rfl rfl, by decide +kernel, by decide +kernel, by decide +kernel, by decide +kernel⟩
set_option maxRecDepth 100000 in
theorem n_N_init : Cond.instanceMethod y_N_init ∈ tb := tb_1 55 rfl rfl
set_option maxRecDepth 100000 in
theorem k_D_36 : zcn "DoorActs" 36 y_V_init "DoorActs" b_V_init 1 none 0 := ⟨tb_1 71 rfl rfl, tb_1 6 rfl rfl, by decide +kernel, by decide +kernel, by decide +kernel, by decide +kernel⟩
set_option maxRecDepth 100000 in
theorem n_V_init : Cond.instanceMethod y_V_init ∈ tb := tb_1 70 rfl rfl
set_option maxRecDepth 100000 in
theorem k_L_1 : zcb "java/util/ArrayList" 1 y_AL_init b_AL_init 1 none 0 := ⟨tb_1 33 rfl rfl, tb_1 3 rfl rfl, tb_1 31 rfl rfl, by decide +kernel, by decide +kernel, by decide +kernel⟩
set_option maxRecDepth 100000 in
theorem n_AL_init : Cond.instanceMethod y_AL_init ∈ tb := tb_1 32 rfl rfl
set_option maxRecDepth 100000 in
theorem k_AL_1 : zcb "java/util/AbstractList" 1 y_AC_init b_AC_init 1 none 0 := ⟨tb_1 36 rfl rfl, tb_1 2 rfl rfl, tb_1 34 rfl rfl, by decide +kernel, by decide +kernel, by decide +kernel⟩
set_option maxRecDepth 100000 in
theorem n_AC_init : Cond.instanceMethod y_AC_init ∈ tb := tb_1 35 rfl rfl
set_option maxRecDepth 100000 in
theorem k_V_19 : zcb "DoorActs$Device" 19 y_L_init b_L_init 1 none 0 := ⟨tb_1 30 rfl rfl, tb_1 4 rfl rfl, tb_1 74 rfl rfl, by decide +kernel, by decide +kernel, by decide +kernel⟩
set_option maxRecDepth 100000 in
theorem k_D_37 : zcb "DoorActs" 37 y_D_isPerson b_D_isPerson 1 (some .boolean) 1 := ⟨tb_1 113 rfl rfl, tb_1 1 rfl rfl, tb_1 111 rfl rfl, by decide +kernel, by decide +kernel, by decide +kernel⟩
set_option maxRecDepth 100000 in
theorem s_D_isPerson : Cond.static y_D_isPerson ∈ tb := tb_1 112 rfl rfl
set_option maxRecDepth 100000 in
theorem k_D_41 : zcb "DoorActs" 41 y_L_size b_L_size 1 (some .int) 0 := ⟨tb_1 117 rfl rfl, tb_1 4 rfl rfl, tb_1 114 rfl rfl, by decide +kernel, by decide +kernel, by decide +kernel⟩
set_option maxRecDepth 100000 in
theorem n_L_size : Cond.instanceMethod y_L_size ∈ tb := tb_1 115 rfl rfl
set_option maxRecDepth 100000 in
theorem v_L_size : Cond.selects y_L_size.cls y_L_size y_L_size ∈ tb := tb_1 116 rfl rfl
set_option maxRecDepth 100000 in
theorem k_D_47 : zcb "DoorActs" 47 y_I_init b_I_init 4 none 3 := ⟨tb_1 122 rfl rfl, tb_1 8 rfl rfl, tb_1 120 rfl rfl, by decide +kernel, by decide +kernel, by decide +kernel⟩
set_option maxRecDepth 100000 in
theorem n_I_init : Cond.instanceMethod y_I_init ∈ tb := tb_1 121 rfl rfl
set_option maxRecDepth 100000 in
theorem k_D_50 : zcb "DoorActs" 50 y_L_add1 b_L_add1 2 (some .boolean) 1 := ⟨tb_1 196 rfl rfl, tb_1 4 rfl rfl, tb_1 193 rfl rfl, by decide +kernel, by decide +kernel, by decide +kernel⟩
set_option maxRecDepth 100000 in
theorem n_L_add1 : Cond.instanceMethod y_L_add1 ∈ tb := tb_1 194 rfl rfl
set_option maxRecDepth 100000 in
theorem v_L_add1 : Cond.selects y_L_add1.cls y_L_add1 y_L_add1 ∈ tb := tb_1 195 rfl rfl
set_option maxRecDepth 100000 in
theorem k_I_11 : zcn "DoorActs$Item" 11 y_F_init "DoorActs" b_F_init 1 none 0 := ⟨tb_1 128 rfl rfl, tb_1 9 rfl rfl, by decide +kernel, by decide +kernel, by decide +kernel, by decide +kernel⟩
set_option maxRecDepth 100000 in
theorem n_F_init : Cond.instanceMethod y_F_init ∈ tb := tb_1 127 rfl rfl
set_option maxRecDepth 100000 in
theorem k_L_131 : zcb "java/util/ArrayList" 131 y_L_add3 b_L_add3 4 none 3 := ⟨tb_1 200 rfl rfl, tb_1 4 rfl rfl, tb_1 197 rfl rfl, by decide +kernel, by decide +kernel, by decide +kernel⟩
set_option maxRecDepth 100000 in
theorem n_L_add3 : Cond.instanceMethod y_L_add3 ∈ tb := tb_1 199 rfl rfl
set_option maxRecDepth 100000 in
theorem v_L_add3 : Cond.selects y_L_add3.cls y_L_add3 y_L_add3 ∈ tb := tb_at 0 rfl rfl
set_option maxRecDepth 100000 in
theorem k_L_129 : zcb "java/util/ArrayList" 129 y_L_grow0 b_L_grow0 1 (some (.array (.object "java/lang/Object"))) 0 := ⟨tb_1 204 rfl rfl, tb_1 4 rfl rfl, tb_1 201 rfl rfl, by decide +kernel, by decide +kernel, by decide +kernel⟩
set_option maxRecDepth 100000 in
theorem n_L_grow0 : Cond.instanceMethod y_L_grow0 ∈ tb := tb_1 203 rfl rfl
set_option maxRecDepth 100000 in
theorem v_L_grow0 : Cond.selects y_L_grow0.cls y_L_grow0 y_L_grow0 ∈ tb := tb_at 1 rfl rfl
set_option maxRecDepth 100000 in
theorem k_L_69 : zcb "java/util/ArrayList" 69 y_L_grow1 b_L_grow1 4 (some (.array (.object "java/lang/Object"))) 1 := ⟨tb_1 208 rfl rfl, tb_1 4 rfl rfl, tb_1 205 rfl rfl, by decide +kernel, by decide +kernel, by decide +kernel⟩
set_option maxRecDepth 100000 in
theorem n_L_grow1 : Cond.instanceMethod y_L_grow1 ∈ tb := tb_1 207 rfl rfl
set_option maxRecDepth 100000 in
theorem v_L_grow1 : Cond.selects y_L_grow1.cls y_L_grow1 y_L_grow1 ∈ tb := tb_at 2 rfl rfl
set_option maxRecDepth 100000 in
theorem k_L_73 : zcb "java/util/ArrayList" 73 y_AS_newLength b_AS_newLength 4 (some .int) 3 := ⟨tb_1 211 rfl rfl, tb_1 10 rfl rfl, tb_1 209 rfl rfl, by decide +kernel, by decide +kernel, by decide +kernel⟩
set_option maxRecDepth 100000 in
theorem s_AS_newLength : Cond.static y_AS_newLength ∈ tb := tb_1 210 rfl rfl
set_option maxRecDepth 100000 in
theorem k_L_66 : zcb "java/util/ArrayList" 66 y_Ar_copyOf2 b_Ar_copyOf2 2 (some (.array (.object "java/lang/Object"))) 2 := ⟨tb_1 221 rfl rfl, tb_1 12 rfl rfl, tb_1 219 rfl rfl, by decide +kernel, by decide +kernel, by decide +kernel⟩
set_option maxRecDepth 100000 in
theorem s_Ar_copyOf2 : Cond.static y_Ar_copyOf2 ∈ tb := tb_1 220 rfl rfl
set_option maxRecDepth 100000 in
theorem k_L_79 : zcb "java/util/ArrayList" 79 y_Ma_max b_Ma_max 2 (some .int) 2 := ⟨tb_1 214 rfl rfl, tb_1 11 rfl rfl, tb_2 7 rfl rfl, by decide +kernel, by decide +kernel, by decide +kernel⟩
set_option maxRecDepth 100000 in
theorem s_Ma_max : Cond.static y_Ma_max ∈ tb := tb_1 213 rfl rfl
set_option maxRecDepth 100000 in
theorem k_AS_194 : zcb "jdk/internal/util/ArraysSupport" 194 y_Ma_max b_Ma_max 2 (some .int) 2 := ⟨tb_1 214 rfl rfl, tb_1 11 rfl rfl, tb_1 212 rfl rfl, by decide +kernel, by decide +kernel, by decide +kernel⟩
set_option maxRecDepth 100000 in
theorem k_AS_201 : zcb "jdk/internal/util/ArraysSupport" 201 y_AS_hugeLength b_AS_hugeLength 3 (some .int) 2 := ⟨tb_1 218 rfl rfl, tb_1 10 rfl rfl, tb_1 216 rfl rfl, by decide +kernel, by decide +kernel, by decide +kernel⟩
set_option maxRecDepth 100000 in
theorem s_AS_hugeLength : Cond.static y_AS_hugeLength ∈ tb := tb_1 217 rfl rfl
set_option maxRecDepth 100000 in
theorem k_Ar_300 : zcb "java/util/Arrays" 300 y_Ar_copyOf3 b_Ar_copyOf3 4 (some (.array (.object "java/lang/Object"))) 3 := ⟨tb_1 237 rfl rfl, tb_1 12 rfl rfl, tb_1 235 rfl rfl, by decide +kernel, by decide +kernel, by decide +kernel⟩
set_option maxRecDepth 100000 in
theorem s_Ar_copyOf3 : Cond.static y_Ar_copyOf3 ∈ tb := tb_1 236 rfl rfl
set_option maxRecDepth 100000 in
theorem k_Ar_304 : zcb "java/util/Arrays" 304 y_Ma_min b_Ma_min 2 (some .int) 2 := ⟨tb_2 3 rfl rfl, tb_1 11 rfl rfl, tb_2 1 rfl rfl, by decide +kernel, by decide +kernel, by decide +kernel⟩
set_option maxRecDepth 100000 in
theorem s_Ma_min : Cond.static y_Ma_min ∈ tb := tb_2 2 rfl rfl
set_option maxRecDepth 100000 in
theorem k_D_54 : zcb "DoorActs" 54 y_N_turn b_N_turn 6 (some .int) 3 := ⟨tb_2 16 rfl rfl, tb_1 5 rfl rfl, tb_2 13 rfl rfl, by decide +kernel, by decide +kernel, by decide +kernel⟩
set_option maxRecDepth 100000 in
theorem n_N_turn : Cond.instanceMethod y_N_turn ∈ tb := tb_2 14 rfl rfl
set_option maxRecDepth 100000 in
theorem v_N_turn : Cond.selects y_N_turn.cls y_N_turn y_N_turn ∈ tb := tb_2 15 rfl rfl
set_option maxRecDepth 100000 in
theorem k_N_19 : zcb "DoorActs$Consents" 19 y_N_codeOf b_N_codeOf 3 (some .int) 3 := ⟨tb_2 19 rfl rfl, tb_1 5 rfl rfl, tb_2 17 rfl rfl, by decide +kernel, by decide +kernel, by decide +kernel⟩
set_option maxRecDepth 100000 in
theorem s_N_codeOf : Cond.static y_N_codeOf ∈ tb := tb_2 18 rfl rfl
set_option maxRecDepth 100000 in
theorem k_N_23 : zcb "DoorActs$Consents" 23 y_N_placeOf b_N_placeOf 3 (some .int) 1 := ⟨tb_2 23 rfl rfl, tb_1 5 rfl rfl, tb_2 20 rfl rfl, by decide +kernel, by decide +kernel, by decide +kernel⟩
set_option maxRecDepth 100000 in
theorem n_N_placeOf : Cond.instanceMethod y_N_placeOf ∈ tb := tb_2 22 rfl rfl
set_option maxRecDepth 100000 in
theorem v_N_placeOf : Cond.selects y_N_placeOf.cls y_N_placeOf y_N_placeOf ∈ tb := tb_at 3 rfl rfl
set_option maxRecDepth 100000 in
theorem k_D_58 : zcb "DoorActs" 58 y_D_itemOf b_D_itemOf 2 (some (.object "DoorActs$Item")) 1 := ⟨tb_2 31 rfl rfl, tb_1 1 rfl rfl, tb_2 28 rfl rfl, by decide +kernel, by decide +kernel, by decide +kernel⟩
set_option maxRecDepth 100000 in
theorem n_D_itemOf : Cond.instanceMethod y_D_itemOf ∈ tb := tb_2 30 rfl rfl
set_option maxRecDepth 100000 in
theorem v_D_itemOf : Cond.selects y_D_itemOf.cls y_D_itemOf y_D_itemOf ∈ tb := tb_at 4 rfl rfl
set_option maxRecDepth 100000 in
theorem k_D_62 : zcb "DoorActs" 62 y_D_isDevice b_D_isDevice 1 (some .boolean) 1 := ⟨tb_2 48 rfl rfl, tb_1 1 rfl rfl, tb_2 46 rfl rfl, by decide +kernel, by decide +kernel, by decide +kernel⟩
set_option maxRecDepth 100000 in
theorem s_D_isDevice : Cond.static y_D_isDevice ∈ tb := tb_2 47 rfl rfl
set_option maxRecDepth 100000 in
theorem k_D_69 : zcb "DoorActs" 69 y_V_factsOf b_V_factsOf 3 (some (.object "DoorActs$Facts")) 1 := ⟨tb_2 52 rfl rfl, tb_1 6 rfl rfl, tb_2 49 rfl rfl, by decide +kernel, by decide +kernel, by decide +kernel⟩
set_option maxRecDepth 100000 in
theorem n_V_factsOf : Cond.instanceMethod y_V_factsOf ∈ tb := tb_2 50 rfl rfl
set_option maxRecDepth 100000 in
theorem v_V_factsOf : Cond.selects y_V_factsOf.cls y_V_factsOf y_V_factsOf ∈ tb := tb_2 51 rfl rfl
set_option maxRecDepth 100000 in
theorem k_D_77 : zcb "DoorActs" 77 y_D_isActAsSaid b_D_isActAsSaid 4 (some .boolean) 3 := ⟨tb_2 58 rfl rfl, tb_1 1 rfl rfl, tb_2 56 rfl rfl, by decide +kernel, by decide +kernel, by decide +kernel⟩
set_option maxRecDepth 100000 in
theorem s_D_isActAsSaid : Cond.static y_D_isActAsSaid ∈ tb := tb_2 57 rfl rfl
set_option maxRecDepth 100000 in
theorem k_D_88 : zcb "DoorActs" 88 y_F_allow b_F_allow 4 (some .boolean) 3 := ⟨tb_2 64 rfl rfl, tb_1 9 rfl rfl, tb_2 61 rfl rfl, by decide +kernel, by decide +kernel, by decide +kernel⟩
set_option maxRecDepth 100000 in
theorem n_F_allow : Cond.instanceMethod y_F_allow ∈ tb := tb_2 62 rfl rfl
set_option maxRecDepth 100000 in
theorem v_F_allow : Cond.selects y_F_allow.cls y_F_allow y_F_allow ∈ tb := tb_2 63 rfl rfl
set_option maxRecDepth 100000 in
theorem k_D_96 : zcb "DoorActs" 96 y_D_outcomeOf b_D_outcomeOf 6 (some .int) 5 := ⟨tb_2 72 rfl rfl, tb_1 1 rfl rfl, tb_2 69 rfl rfl, by decide +kernel, by decide +kernel, by decide +kernel⟩
set_option maxRecDepth 100000 in
theorem n_D_outcomeOf : Cond.instanceMethod y_D_outcomeOf ∈ tb := tb_2 71 rfl rfl
set_option maxRecDepth 100000 in
theorem v_D_outcomeOf : Cond.selects y_D_outcomeOf.cls y_D_outcomeOf y_D_outcomeOf ∈ tb := tb_at 5 rfl rfl
set_option maxRecDepth 100000 in
theorem k_D_102 : zcb "DoorActs" 102 y_A_init b_A_init 7 none 6 := ⟨tb_2 96 rfl rfl, tb_1 16 rfl rfl, tb_2 94 rfl rfl, by decide +kernel, by decide +kernel, by decide +kernel⟩
set_option maxRecDepth 100000 in
theorem n_A_init : Cond.instanceMethod y_A_init ∈ tb := tb_2 95 rfl rfl
set_option maxRecDepth 100000 in
theorem k_D_105 : zcb "DoorActs" 105 y_F_change b_F_change 2 none 1 := ⟨tb_2 129 rfl rfl, tb_1 9 rfl rfl, tb_2 126 rfl rfl, by decide +kernel, by decide +kernel, by decide +kernel⟩
set_option maxRecDepth 100000 in
theorem n_F_change : Cond.instanceMethod y_F_change ∈ tb := tb_2 127 rfl rfl
set_option maxRecDepth 100000 in
theorem v_F_change : Cond.selects y_F_change.cls y_F_change y_F_change ∈ tb := tb_2 128 rfl rfl
set_option maxRecDepth 100000 in
theorem k_D_109 : zcb "DoorActs" 109 y_L_get b_L_get 2 (some (.object "java/lang/Object")) 1 := ⟨tb_2 35 rfl rfl, tb_1 4 rfl rfl, tb_2 32 rfl rfl, by decide +kernel, by decide +kernel, by decide +kernel⟩
set_option maxRecDepth 100000 in
theorem n_L_get : Cond.instanceMethod y_L_get ∈ tb := tb_2 33 rfl rfl
set_option maxRecDepth 100000 in
theorem v_L_get : Cond.selects y_L_get.cls y_L_get y_L_get ∈ tb := tb_2 34 rfl rfl
set_option maxRecDepth 100000 in
theorem k_L_118 : zcb "java/util/ArrayList" 118 y_Ob_checkIndex b_Ob_checkIndex 2 (some .int) 2 := ⟨tb_2 38 rfl rfl, tb_1 14 rfl rfl, tb_2 36 rfl rfl, by decide +kernel, by decide +kernel, by decide +kernel⟩
set_option maxRecDepth 100000 in
theorem s_Ob_checkIndex : Cond.static y_Ob_checkIndex ∈ tb := tb_2 37 rfl rfl
set_option maxRecDepth 100000 in
theorem k_L_123 : zcb "java/util/ArrayList" 123 y_L_elementData b_L_elementData 2 (some (.object "java/lang/Object")) 1 := ⟨tb_2 45 rfl rfl, tb_1 4 rfl rfl, tb_2 42 rfl rfl, by decide +kernel, by decide +kernel, by decide +kernel⟩
set_option maxRecDepth 100000 in
theorem n_L_elementData : Cond.instanceMethod y_L_elementData ∈ tb := tb_2 43 rfl rfl
set_option maxRecDepth 100000 in
theorem v_L_elementData : Cond.selects y_L_elementData.cls y_L_elementData y_L_elementData ∈ tb := tb_2 44 rfl rfl
set_option maxRecDepth 100000 in
theorem k_Ob_105 : zcb "java/util/Objects" 105 y_P_checkIndex b_P_checkIndex 3 (some .int) 3 := ⟨tb_2 41 rfl rfl, tb_1 15 rfl rfl, tb_2 39 rfl rfl, by decide +kernel, by decide +kernel, by decide +kernel⟩
set_option maxRecDepth 100000 in
theorem s_P_checkIndex : Cond.static y_P_checkIndex ∈ tb := tb_2 40 rfl rfl
set_option maxRecDepth 100000 in
theorem k_V_33 : zcb "DoorActs$Device" 33 y_L_size b_L_size 1 (some .int) 0 := ⟨tb_1 117 rfl rfl, tb_1 4 rfl rfl, tb_2 53 rfl rfl, by decide +kernel, by decide +kernel, by decide +kernel⟩
set_option maxRecDepth 100000 in
theorem k_V_37 : zcb "DoorActs$Device" 37 y_L_get b_L_get 2 (some (.object "java/lang/Object")) 1 := ⟨tb_2 35 rfl rfl, tb_1 4 rfl rfl, tb_2 54 rfl rfl, by decide +kernel, by decide +kernel, by decide +kernel⟩
set_option maxRecDepth 100000 in
theorem k_F_46 : zcb "DoorActs$Facts" 46 y_F_isHandedOver b_F_isHandedOver 1 (some .boolean) 0 := ⟨tb_2 68 rfl rfl, tb_1 9 rfl rfl, tb_2 65 rfl rfl, by decide +kernel, by decide +kernel, by decide +kernel⟩
set_option maxRecDepth 100000 in
theorem n_F_isHandedOver : Cond.instanceMethod y_F_isHandedOver ∈ tb := tb_2 66 rfl rfl
set_option maxRecDepth 100000 in
theorem v_F_isHandedOver : Cond.selects y_F_isHandedOver.cls y_F_isHandedOver y_F_isHandedOver ∈ tb := tb_2 67 rfl rfl
set_option maxRecDepth 100000 in
theorem k_D_183 : zcb "DoorActs" 183 y_D_handOutcome b_D_handOutcome 6 (some .int) 4 := ⟨tb_2 76 rfl rfl, tb_1 1 rfl rfl, tb_2 73 rfl rfl, by decide +kernel, by decide +kernel, by decide +kernel⟩
set_option maxRecDepth 100000 in
theorem n_D_handOutcome : Cond.instanceMethod y_D_handOutcome ∈ tb := tb_2 75 rfl rfl
set_option maxRecDepth 100000 in
theorem v_D_handOutcome : Cond.selects y_D_handOutcome.cls y_D_handOutcome y_D_handOutcome ∈ tb := tb_at 6 rfl rfl
set_option maxRecDepth 100000 in
theorem k_D_190 : zcb "DoorActs" 190 y_D_hasOrder b_D_hasOrder 3 (some .boolean) 2 := ⟨tb_2 84 rfl rfl, tb_1 1 rfl rfl, tb_2 81 rfl rfl, by decide +kernel, by decide +kernel, by decide +kernel⟩
set_option maxRecDepth 100000 in
theorem n_D_hasOrder : Cond.instanceMethod y_D_hasOrder ∈ tb := tb_2 83 rfl rfl
set_option maxRecDepth 100000 in
theorem v_D_hasOrder : Cond.selects y_D_hasOrder.cls y_D_hasOrder y_D_hasOrder ∈ tb := tb_at 8 rfl rfl
set_option maxRecDepth 100000 in
theorem k_D_194 : zcb "DoorActs" 194 y_N_stand b_N_stand 4 (some .boolean) 3 := ⟨tb_2 88 rfl rfl, tb_1 5 rfl rfl, tb_2 85 rfl rfl, by decide +kernel, by decide +kernel, by decide +kernel⟩
set_option maxRecDepth 100000 in
theorem n_N_stand : Cond.instanceMethod y_N_stand ∈ tb := tb_2 86 rfl rfl
set_option maxRecDepth 100000 in
theorem v_N_stand : Cond.selects y_N_stand.cls y_N_stand y_N_stand ∈ tb := tb_2 87 rfl rfl
set_option maxRecDepth 100000 in
theorem k_D_197 : zcb "DoorActs" 197 y_D_takerOutcome b_D_takerOutcome 5 (some .int) 3 := ⟨tb_2 80 rfl rfl, tb_1 1 rfl rfl, tb_2 77 rfl rfl, by decide +kernel, by decide +kernel, by decide +kernel⟩
set_option maxRecDepth 100000 in
theorem n_D_takerOutcome : Cond.instanceMethod y_D_takerOutcome ∈ tb := tb_2 79 rfl rfl
set_option maxRecDepth 100000 in
theorem v_D_takerOutcome : Cond.selects y_D_takerOutcome.cls y_D_takerOutcome y_D_takerOutcome ∈ tb := tb_at 7 rfl rfl
set_option maxRecDepth 100000 in
theorem k_D_201 : zcb "DoorActs" 201 y_D_isProofEnough b_D_isProofEnough 5 (some .boolean) 4 := ⟨tb_2 91 rfl rfl, tb_1 1 rfl rfl, tb_2 89 rfl rfl, by decide +kernel, by decide +kernel, by decide +kernel⟩
set_option maxRecDepth 100000 in
theorem s_D_isProofEnough : Cond.static y_D_isProofEnough ∈ tb := tb_2 90 rfl rfl
set_option maxRecDepth 100000 in
theorem k_F_61 : zcb "DoorActs$Facts" 61 y_F_leaveCard b_F_leaveCard 2 none 1 := ⟨tb_2 133 rfl rfl, tb_1 9 rfl rfl, tb_2 130 rfl rfl, by decide +kernel, by decide +kernel, by decide +kernel⟩
set_option maxRecDepth 100000 in
theorem n_F_leaveCard : Cond.instanceMethod y_F_leaveCard ∈ tb := tb_2 132 rfl rfl
set_option maxRecDepth 100000 in
theorem v_F_leaveCard : Cond.selects y_F_leaveCard.cls y_F_leaveCard y_F_leaveCard ∈ tb := tb_at 9 rfl rfl
set_option maxRecDepth 100000 in
theorem k_F_65 : zcb "DoorActs$Facts" 65 y_F_handOver b_F_handOver 2 none 1 := ⟨tb_2 137 rfl rfl, tb_1 9 rfl rfl, tb_2 134 rfl rfl, by decide +kernel, by decide +kernel, by decide +kernel⟩
set_option maxRecDepth 100000 in
theorem n_F_handOver : Cond.instanceMethod y_F_handOver ∈ tb := tb_2 136 rfl rfl
set_option maxRecDepth 100000 in
theorem v_F_handOver : Cond.selects y_F_handOver.cls y_F_handOver y_F_handOver ∈ tb := tb_at 10 rfl rfl
set_option maxRecDepth 100000 in
theorem k_D_113 : zcb "DoorActs" 113 y_D_doForAll b_D_doForAll 3 none 1 := ⟨tb_2 145 rfl rfl, tb_1 1 rfl rfl, tb_2 142 rfl rfl, by decide +kernel, by decide +kernel, by decide +kernel⟩
set_option maxRecDepth 100000 in
theorem n_D_doForAll : Cond.instanceMethod y_D_doForAll ∈ tb := tb_2 144 rfl rfl
set_option maxRecDepth 100000 in
theorem v_D_doForAll : Cond.selects y_D_doForAll.cls y_D_doForAll y_D_doForAll ∈ tb := tb_at 11 rfl rfl
set_option maxRecDepth 100000 in
theorem k_D_116 : zcb "DoorActs" 116 y_V_goOnLine b_V_goOnLine 1 none 0 := ⟨tb_2 168 rfl rfl, tb_1 6 rfl rfl, tb_2 165 rfl rfl, by decide +kernel, by decide +kernel, by decide +kernel⟩
set_option maxRecDepth 100000 in
theorem n_V_goOnLine : Cond.instanceMethod y_V_goOnLine ∈ tb := tb_2 166 rfl rfl
set_option maxRecDepth 100000 in
theorem v_V_goOnLine : Cond.selects y_V_goOnLine.cls y_V_goOnLine y_V_goOnLine ∈ tb := tb_2 167 rfl rfl
set_option maxRecDepth 100000 in
theorem k_D_182 : zcb "DoorActs" 182 y_C_init b_C_init 4 none 3 := ⟨tb_2 150 rfl rfl, tb_1 17 rfl rfl, tb_2 148 rfl rfl, by decide +kernel, by decide +kernel, by decide +kernel⟩
set_option maxRecDepth 100000 in
theorem n_C_init : Cond.instanceMethod y_C_init ∈ tb := tb_2 149 rfl rfl
set_option maxRecDepth 100000 in
theorem k_V_56 : zcb "DoorActs$Device" 56 y_L_clear b_L_clear 4 none 0 := ⟨tb_2 172 rfl rfl, tb_1 4 rfl rfl, tb_2 169 rfl rfl, by decide +kernel, by decide +kernel, by decide +kernel⟩
set_option maxRecDepth 100000 in
theorem n_L_clear : Cond.instanceMethod y_L_clear ∈ tb := tb_2 170 rfl rfl
set_option maxRecDepth 100000 in
theorem v_L_clear : Cond.selects y_L_clear.cls y_L_clear y_L_clear ∈ tb := tb_2 171 rfl rfl
set_option maxRecDepth 100000 in
theorem k_D_131 : zcb "DoorActs" 131 y_V_goOffLine b_V_goOffLine 3 none 1 := ⟨tb_2 184 rfl rfl, tb_1 6 rfl rfl, tb_2 181 rfl rfl, by decide +kernel, by decide +kernel, by decide +kernel⟩
set_option maxRecDepth 100000 in
theorem n_V_goOffLine : Cond.instanceMethod y_V_goOffLine ∈ tb := tb_2 182 rfl rfl
set_option maxRecDepth 100000 in
theorem v_V_goOffLine : Cond.selects y_V_goOffLine.cls y_V_goOffLine y_V_goOffLine ∈ tb := tb_2 183 rfl rfl
set_option maxRecDepth 100000 in
theorem k_V_43 : zcn "DoorActs$Device" 43 y_F_init "DoorActs" b_F_init 1 none 0 := ⟨tb_1 128 rfl rfl, tb_1 9 rfl rfl, by decide +kernel, by decide +kernel, by decide +kernel, by decide +kernel⟩
set_option maxRecDepth 100000 in
theorem k_V_44 : zcb "DoorActs$Device" 44 y_L_add1 b_L_add1 2 (some .boolean) 1 := ⟨tb_1 196 rfl rfl, tb_1 4 rfl rfl, tb_2 186 rfl rfl, by decide +kernel, by decide +kernel, by decide +kernel⟩
set_option maxRecDepth 100000 in
theorem k_V_52 : zcb "DoorActs$Device" 52 y_F_copyFrom b_F_copyFrom 2 none 1 := ⟨tb_2 191 rfl rfl, tb_1 9 rfl rfl, tb_2 188 rfl rfl, by decide +kernel, by decide +kernel, by decide +kernel⟩
set_option maxRecDepth 100000 in
theorem n_F_copyFrom : Cond.instanceMethod y_F_copyFrom ∈ tb := tb_2 189 rfl rfl
set_option maxRecDepth 100000 in
theorem v_F_copyFrom : Cond.selects y_F_copyFrom.cls y_F_copyFrom y_F_copyFrom ∈ tb := tb_2 190 rfl rfl
set_option maxRecDepth 100000 in
theorem k_D_140 : zcb "DoorActs" 140 y_F_goBackBy b_F_goBackBy 3 (some .boolean) 1 := ⟨tb_2 204 rfl rfl, tb_1 9 rfl rfl, tb_2 201 rfl rfl, by decide +kernel, by decide +kernel, by decide +kernel⟩
set_option maxRecDepth 100000 in
theorem n_F_goBackBy : Cond.instanceMethod y_F_goBackBy ∈ tb := tb_2 202 rfl rfl
set_option maxRecDepth 100000 in
theorem v_F_goBackBy : Cond.selects y_F_goBackBy.cls y_F_goBackBy y_F_goBackBy ∈ tb := tb_2 203 rfl rfl
set_option maxRecDepth 100000 in
theorem k_D_147 : zcb "DoorActs" 147 y_F_isHandedOver b_F_isHandedOver 1 (some .boolean) 0 := ⟨tb_2 68 rfl rfl, tb_1 9 rfl rfl, tb_2 209 rfl rfl, by decide +kernel, by decide +kernel, by decide +kernel⟩
set_option maxRecDepth 100000 in
theorem k_M_108 : zcb "DoorActsModel" 108 y_M_isIn b_M_isIn 6 (some .boolean) 3 := ⟨tb_3 96 rfl rfl, tb_1 7 rfl rfl, tb_3 94 rfl rfl, by decide +kernel, by decide +kernel, by decide +kernel⟩
set_option maxRecDepth 100000 in
theorem s_M_isIn : Cond.static y_M_isIn ∈ tb := tb_3 95 rfl rfl
set_option maxRecDepth 100000 in
theorem k_M_119 : zcb "DoorActsModel" 119 y_M_findConsent b_M_findConsent 7 (some .int) 3 := ⟨tb_3 106 rfl rfl, tb_1 7 rfl rfl, tb_3 103 rfl rfl, by decide +kernel, by decide +kernel, by decide +kernel⟩
set_option maxRecDepth 100000 in
theorem n_M_findConsent : Cond.instanceMethod y_M_findConsent ∈ tb := tb_3 105 rfl rfl
set_option maxRecDepth 100000 in
theorem v_M_findConsent : Cond.selects y_M_findConsent.cls y_M_findConsent y_M_findConsent ∈ tb := tb_at 12 rfl rfl
set_option maxRecDepth 100000 in
theorem k_M_143 : zcb "DoorActsModel" 143 y_M_isItem b_M_isItem 2 (some .boolean) 1 := ⟨tb_3 114 rfl rfl, tb_1 7 rfl rfl, tb_3 111 rfl rfl, by decide +kernel, by decide +kernel, by decide +kernel⟩
set_option maxRecDepth 100000 in
theorem n_M_isItem : Cond.instanceMethod y_M_isItem ∈ tb := tb_3 113 rfl rfl
set_option maxRecDepth 100000 in
theorem v_M_isItem : Cond.selects y_M_isItem.cls y_M_isItem y_M_isItem ∈ tb := tb_at 13 rfl rfl
set_option maxRecDepth 100000 in
theorem k_M_147 : zcb "DoorActsModel" 147 y_M_isDevice b_M_isDevice 1 (some .boolean) 1 := ⟨tb_3 117 rfl rfl, tb_1 7 rfl rfl, tb_3 115 rfl rfl, by decide +kernel, by decide +kernel, by decide +kernel⟩
set_option maxRecDepth 100000 in
theorem s_M_isDevice : Cond.static y_M_isDevice ∈ tb := tb_3 116 rfl rfl
set_option maxRecDepth 100000 in
theorem k_M_158 : zcb "DoorActsModel" 158 y_M_canBe b_M_canBe 9 (some .boolean) 5 := ⟨tb_3 125 rfl rfl, tb_1 7 rfl rfl, tb_3 122 rfl rfl, by decide +kernel, by decide +kernel, by decide +kernel⟩
set_option maxRecDepth 100000 in
theorem n_M_canBe : Cond.instanceMethod y_M_canBe ∈ tb := tb_3 124 rfl rfl
set_option maxRecDepth 100000 in
theorem v_M_canBe : Cond.selects y_M_canBe.cls y_M_canBe y_M_canBe ∈ tb := tb_at 14 rfl rfl
set_option maxRecDepth 100000 in
theorem k_M_162 : zcb "DoorActsModel" 162 y_M_outcome b_M_outcome 10 (some .int) 5 := ⟨tb_3 129 rfl rfl, tb_1 7 rfl rfl, tb_3 126 rfl rfl, by decide +kernel, by decide +kernel, by decide +kernel⟩
set_option maxRecDepth 100000 in
theorem n_M_outcome : Cond.instanceMethod y_M_outcome ∈ tb := tb_3 128 rfl rfl
set_option maxRecDepth 100000 in
theorem v_M_outcome : Cond.selects y_M_outcome.cls y_M_outcome y_M_outcome ∈ tb := tb_at 15 rfl rfl
set_option maxRecDepth 100000 in
theorem k_M_166 : zcb "DoorActsModel" 166 y_M_make b_M_make 10 none 7 := ⟨tb_3 146 rfl rfl, tb_1 7 rfl rfl, tb_3 143 rfl rfl, by decide +kernel, by decide +kernel, by decide +kernel⟩
set_option maxRecDepth 100000 in
theorem n_M_make : Cond.instanceMethod y_M_make ∈ tb := tb_3 145 rfl rfl
set_option maxRecDepth 100000 in
theorem v_M_make : Cond.selects y_M_make.cls y_M_make y_M_make ∈ tb := tb_at 19 rfl rfl
set_option maxRecDepth 100000 in
theorem k_M_125 : zcb "DoorActsModel" 125 y_M_whoTakes b_M_whoTakes 6 (some .int) 3 := ⟨tb_3 133 rfl rfl, tb_1 7 rfl rfl, tb_3 130 rfl rfl, by decide +kernel, by decide +kernel, by decide +kernel⟩
set_option maxRecDepth 100000 in
theorem n_M_whoTakes : Cond.instanceMethod y_M_whoTakes ∈ tb := tb_3 132 rfl rfl
set_option maxRecDepth 100000 in
theorem v_M_whoTakes : Cond.selects y_M_whoTakes.cls y_M_whoTakes y_M_whoTakes ∈ tb := tb_at 16 rfl rfl
set_option maxRecDepth 100000 in
theorem k_M_129 : zcb "DoorActsModel" 129 y_M_isProven b_M_isProven 8 (some .boolean) 4 := ⟨tb_3 137 rfl rfl, tb_1 7 rfl rfl, tb_3 134 rfl rfl, by decide +kernel, by decide +kernel, by decide +kernel⟩
set_option maxRecDepth 100000 in
theorem n_M_isProven : Cond.instanceMethod y_M_isProven ∈ tb := tb_3 136 rfl rfl
set_option maxRecDepth 100000 in
theorem v_M_isProven : Cond.selects y_M_isProven.cls y_M_isProven y_M_isProven ∈ tb := tb_at 17 rfl rfl
set_option maxRecDepth 100000 in
theorem k_M_133 : zcb "DoorActsModel" 133 y_M_due b_M_due 2 (some .long) 1 := ⟨tb_3 141 rfl rfl, tb_1 7 rfl rfl, tb_3 138 rfl rfl, by decide +kernel, by decide +kernel, by decide +kernel⟩
set_option maxRecDepth 100000 in
theorem n_M_due : Cond.instanceMethod y_M_due ∈ tb := tb_3 140 rfl rfl
set_option maxRecDepth 100000 in
theorem v_M_due : Cond.selects y_M_due.cls y_M_due y_M_due ∈ tb := tb_at 18 rfl rfl
set_option maxRecDepth 100000 in
theorem k_M_137 : zcb "DoorActsModel" 137 y_M_hand b_M_hand 7 none 5 := ⟨tb_3 150 rfl rfl, tb_1 7 rfl rfl, tb_3 147 rfl rfl, by decide +kernel, by decide +kernel, by decide +kernel⟩
set_option maxRecDepth 100000 in
theorem n_M_hand : Cond.instanceMethod y_M_hand ∈ tb := tb_3 149 rfl rfl
set_option maxRecDepth 100000 in
theorem v_M_hand : Cond.selects y_M_hand.cls y_M_hand y_M_hand ∈ tb := tb_at 20 rfl rfl
set_option maxRecDepth 100000 in
theorem k_W_9 : zcb "DoorActsLaw" 9 y_D_init b_D_init 2 none 0 := ⟨tb_1 22 rfl rfl, tb_1 1 rfl rfl, tb_1 20 rfl rfl, by decide +kernel, by decide +kernel, by decide +kernel⟩
set_option maxRecDepth 100000 in
theorem n_D_init : Cond.instanceMethod y_D_init ∈ tb := tb_1 21 rfl rfl
set_option maxRecDepth 100000 in
theorem k_W_12 : zcb "DoorActsLaw" 12 y_M_init b_M_init 1 none 0 := ⟨tb_2 222 rfl rfl, tb_1 7 rfl rfl, tb_2 220 rfl rfl, by decide +kernel, by decide +kernel, by decide +kernel⟩
set_option maxRecDepth 100000 in
theorem n_M_init : Cond.instanceMethod y_M_init ∈ tb := tb_2 221 rfl rfl
set_option maxRecDepth 100000 in
theorem k_W_13 : zcb "DoorActsLaw" 13 y_D_item b_D_item 3 (some .int) 2 := ⟨tb_1 110 rfl rfl, tb_1 1 rfl rfl, tb_1 107 rfl rfl, by decide +kernel, by decide +kernel, by decide +kernel⟩
set_option maxRecDepth 100000 in
theorem n_D_item : Cond.instanceMethod y_D_item ∈ tb := tb_1 108 rfl rfl
set_option maxRecDepth 100000 in
theorem v_D_item : Cond.selects y_D_item.cls y_D_item y_D_item ∈ tb := tb_1 109 rfl rfl
set_option maxRecDepth 100000 in
theorem k_W_17 : zcb "DoorActsLaw" 17 y_M_item b_M_item 4 (some .int) 2 := ⟨tb_3 92 rfl rfl, tb_1 7 rfl rfl, tb_3 89 rfl rfl, by decide +kernel, by decide +kernel, by decide +kernel⟩
set_option maxRecDepth 100000 in
theorem n_M_item : Cond.instanceMethod y_M_item ∈ tb := tb_3 90 rfl rfl
set_option maxRecDepth 100000 in
theorem v_M_item : Cond.selects y_M_item.cls y_M_item y_M_item ∈ tb := tb_3 91 rfl rfl
set_option maxRecDepth 100000 in
theorem k_W_18 : zcb "DoorActsLaw" 18 y_D_consent b_D_consent 4 (some .int) 3 := ⟨tb_2 12 rfl rfl, tb_1 1 rfl rfl, tb_2 9 rfl rfl, by decide +kernel, by decide +kernel, by decide +kernel⟩
set_option maxRecDepth 100000 in
theorem n_D_consent : Cond.instanceMethod y_D_consent ∈ tb := tb_2 10 rfl rfl
set_option maxRecDepth 100000 in
theorem v_D_consent : Cond.selects y_D_consent.cls y_D_consent y_D_consent ∈ tb := tb_2 11 rfl rfl
set_option maxRecDepth 100000 in
theorem k_W_22 : zcb "DoorActsLaw" 22 y_M_consent b_M_consent 5 (some .int) 3 := ⟨tb_3 101 rfl rfl, tb_1 7 rfl rfl, tb_3 98 rfl rfl, by decide +kernel, by decide +kernel, by decide +kernel⟩
set_option maxRecDepth 100000 in
theorem n_M_consent : Cond.instanceMethod y_M_consent ∈ tb := tb_3 99 rfl rfl
set_option maxRecDepth 100000 in
theorem v_M_consent : Cond.selects y_M_consent.cls y_M_consent y_M_consent ∈ tb := tb_3 100 rfl rfl
set_option maxRecDepth 100000 in
theorem k_W_25 : zcb "DoorActsLaw" 25 y_D_act b_D_act 14 (some .int) 6 := ⟨tb_2 27 rfl rfl, tb_1 1 rfl rfl, tb_2 24 rfl rfl, by decide +kernel, by decide +kernel, by decide +kernel⟩
set_option maxRecDepth 100000 in
theorem n_D_act : Cond.instanceMethod y_D_act ∈ tb := tb_2 25 rfl rfl
set_option maxRecDepth 100000 in
theorem v_D_act : Cond.selects y_D_act.cls y_D_act y_D_act ∈ tb := tb_2 26 rfl rfl
set_option maxRecDepth 100000 in
theorem k_W_29 : zcb "DoorActsLaw" 29 y_M_act b_M_act 14 (some .int) 6 := ⟨tb_3 110 rfl rfl, tb_1 7 rfl rfl, tb_3 107 rfl rfl, by decide +kernel, by decide +kernel, by decide +kernel⟩
set_option maxRecDepth 100000 in
theorem n_M_act : Cond.instanceMethod y_M_act ∈ tb := tb_3 108 rfl rfl
set_option maxRecDepth 100000 in
theorem v_M_act : Cond.selects y_M_act.cls y_M_act y_M_act ∈ tb := tb_3 109 rfl rfl
set_option maxRecDepth 100000 in
theorem k_W_30 : zcb "DoorActsLaw" 30 y_D_join b_D_join 6 (some .int) 1 := ⟨tb_2 141 rfl rfl, tb_1 1 rfl rfl, tb_2 138 rfl rfl, by decide +kernel, by decide +kernel, by decide +kernel⟩
set_option maxRecDepth 100000 in
theorem n_D_join : Cond.instanceMethod y_D_join ∈ tb := tb_2 139 rfl rfl
set_option maxRecDepth 100000 in
theorem v_D_join : Cond.selects y_D_join.cls y_D_join y_D_join ∈ tb := tb_2 140 rfl rfl
set_option maxRecDepth 100000 in
theorem k_W_34 : zcb "DoorActsLaw" 34 y_M_join b_M_join 6 (some .int) 1 := ⟨tb_3 159 rfl rfl, tb_1 7 rfl rfl, tb_3 156 rfl rfl, by decide +kernel, by decide +kernel, by decide +kernel⟩
set_option maxRecDepth 100000 in
theorem n_M_join : Cond.instanceMethod y_M_join ∈ tb := tb_3 157 rfl rfl
set_option maxRecDepth 100000 in
theorem v_M_join : Cond.selects y_M_join.cls y_M_join y_M_join ∈ tb := tb_3 158 rfl rfl
set_option maxRecDepth 100000 in
theorem k_W_35 : zcb "DoorActsLaw" 35 y_D_clash b_D_clash 4 (some .int) 2 := ⟨tb_2 176 rfl rfl, tb_1 1 rfl rfl, tb_2 173 rfl rfl, by decide +kernel, by decide +kernel, by decide +kernel⟩
set_option maxRecDepth 100000 in
theorem n_D_clash : Cond.instanceMethod y_D_clash ∈ tb := tb_2 174 rfl rfl
set_option maxRecDepth 100000 in
theorem v_D_clash : Cond.selects y_D_clash.cls y_D_clash y_D_clash ∈ tb := tb_2 175 rfl rfl
set_option maxRecDepth 100000 in
theorem k_W_38 : zcb "DoorActsLaw" 38 y_M_clash b_M_clash 3 (some .int) 2 := ⟨tb_3 163 rfl rfl, tb_1 7 rfl rfl, tb_3 160 rfl rfl, by decide +kernel, by decide +kernel, by decide +kernel⟩
set_option maxRecDepth 100000 in
theorem n_M_clash : Cond.instanceMethod y_M_clash ∈ tb := tb_3 161 rfl rfl
set_option maxRecDepth 100000 in
theorem v_M_clash : Cond.selects y_M_clash.cls y_M_clash y_M_clash ∈ tb := tb_3 162 rfl rfl
set_option maxRecDepth 100000 in
theorem k_W_39 : zcb "DoorActsLaw" 39 y_D_cut b_D_cut 3 (some .boolean) 2 := ⟨tb_2 180 rfl rfl, tb_1 1 rfl rfl, tb_2 177 rfl rfl, by decide +kernel, by decide +kernel, by decide +kernel⟩
set_option maxRecDepth 100000 in
theorem n_D_cut : Cond.instanceMethod y_D_cut ∈ tb := tb_2 178 rfl rfl
set_option maxRecDepth 100000 in
theorem v_D_cut : Cond.selects y_D_cut.cls y_D_cut y_D_cut ∈ tb := tb_2 179 rfl rfl
set_option maxRecDepth 100000 in
theorem k_W_43 : zcb "DoorActsLaw" 43 y_M_cut b_M_cut 6 (some .boolean) 2 := ⟨tb_3 155 rfl rfl, tb_1 7 rfl rfl, tb_3 152 rfl rfl, by decide +kernel, by decide +kernel, by decide +kernel⟩
set_option maxRecDepth 100000 in
theorem n_M_cut : Cond.instanceMethod y_M_cut ∈ tb := tb_3 153 rfl rfl
set_option maxRecDepth 100000 in
theorem v_M_cut : Cond.selects y_M_cut.cls y_M_cut y_M_cut ∈ tb := tb_3 154 rfl rfl
set_option maxRecDepth 100000 in
theorem k_W_44 : zcb "DoorActsLaw" 44 y_D_tries b_D_tries 3 (some .int) 1 := ⟨tb_2 195 rfl rfl, tb_1 1 rfl rfl, tb_2 192 rfl rfl, by decide +kernel, by decide +kernel, by decide +kernel⟩
set_option maxRecDepth 100000 in
theorem n_D_tries : Cond.instanceMethod y_D_tries ∈ tb := tb_2 193 rfl rfl
set_option maxRecDepth 100000 in
theorem v_D_tries : Cond.selects y_D_tries.cls y_D_tries y_D_tries ∈ tb := tb_2 194 rfl rfl
set_option maxRecDepth 100000 in
theorem k_W_47 : zcb "DoorActsLaw" 47 y_M_tries b_M_tries 2 (some .int) 1 := ⟨tb_3 167 rfl rfl, tb_1 7 rfl rfl, tb_3 164 rfl rfl, by decide +kernel, by decide +kernel, by decide +kernel⟩
set_option maxRecDepth 100000 in
theorem n_M_tries : Cond.instanceMethod y_M_tries ∈ tb := tb_3 165 rfl rfl
set_option maxRecDepth 100000 in
theorem v_M_tries : Cond.selects y_M_tries.cls y_M_tries y_M_tries ∈ tb := tb_3 166 rfl rfl
set_option maxRecDepth 100000 in
theorem k_W_48 : zcb "DoorActsLaw" 48 y_D_tick b_D_tick 5 (some .int) 1 := ⟨tb_2 199 rfl rfl, tb_1 1 rfl rfl, tb_2 196 rfl rfl, by decide +kernel, by decide +kernel, by decide +kernel⟩
set_option maxRecDepth 100000 in
theorem n_D_tick : Cond.instanceMethod y_D_tick ∈ tb := tb_2 197 rfl rfl
set_option maxRecDepth 100000 in
theorem v_D_tick : Cond.selects y_D_tick.cls y_D_tick y_D_tick ∈ tb := tb_2 198 rfl rfl
set_option maxRecDepth 100000 in
theorem k_W_52 : zcb "DoorActsLaw" 52 y_M_tick b_M_tick 6 (some .int) 1 := ⟨tb_3 171 rfl rfl, tb_1 7 rfl rfl, tb_3 168 rfl rfl, by decide +kernel, by decide +kernel, by decide +kernel⟩
set_option maxRecDepth 100000 in
theorem n_M_tick : Cond.instanceMethod y_M_tick ∈ tb := tb_3 169 rfl rfl
set_option maxRecDepth 100000 in
theorem v_M_tick : Cond.selects y_M_tick.cls y_M_tick y_M_tick ∈ tb := tb_3 170 rfl rfl
set_option maxRecDepth 100000 in
theorem k_W_53 : zcb "DoorActsLaw" 53 y_D_slip b_D_slip 6 (some .int) 2 := ⟨tb_2 208 rfl rfl, tb_1 1 rfl rfl, tb_2 205 rfl rfl, by decide +kernel, by decide +kernel, by decide +kernel⟩
set_option maxRecDepth 100000 in
theorem n_D_slip : Cond.instanceMethod y_D_slip ∈ tb := tb_2 206 rfl rfl
set_option maxRecDepth 100000 in
theorem v_D_slip : Cond.selects y_D_slip.cls y_D_slip y_D_slip ∈ tb := tb_2 207 rfl rfl
set_option maxRecDepth 100000 in
theorem k_W_56 : zcb "DoorActsLaw" 56 y_M_slip b_M_slip 5 (some .int) 2 := ⟨tb_3 176 rfl rfl, tb_1 7 rfl rfl, tb_3 173 rfl rfl, by decide +kernel, by decide +kernel, by decide +kernel⟩
set_option maxRecDepth 100000 in
theorem n_M_slip : Cond.instanceMethod y_M_slip ∈ tb := tb_3 174 rfl rfl
set_option maxRecDepth 100000 in
theorem v_M_slip : Cond.selects y_M_slip.cls y_M_slip y_M_slip ∈ tb := tb_3 175 rfl rfl
set_option maxRecDepth 100000 in
theorem k_W_57 : zcb "DoorActsLaw" 57 y_D_cash b_D_cash 5 (some .int) 2 := ⟨tb_2 213 rfl rfl, tb_1 1 rfl rfl, tb_2 210 rfl rfl, by decide +kernel, by decide +kernel, by decide +kernel⟩
set_option maxRecDepth 100000 in
theorem n_D_cash : Cond.instanceMethod y_D_cash ∈ tb := tb_2 211 rfl rfl
set_option maxRecDepth 100000 in
theorem v_D_cash : Cond.selects y_D_cash.cls y_D_cash y_D_cash ∈ tb := tb_2 212 rfl rfl
set_option maxRecDepth 100000 in
theorem k_W_61 : zcb "DoorActsLaw" 61 y_M_cash b_M_cash 4 (some .int) 2 := ⟨tb_3 180 rfl rfl, tb_1 7 rfl rfl, tb_3 177 rfl rfl, by decide +kernel, by decide +kernel, by decide +kernel⟩
set_option maxRecDepth 100000 in
theorem n_M_cash : Cond.instanceMethod y_M_cash ∈ tb := tb_3 178 rfl rfl
set_option maxRecDepth 100000 in
theorem v_M_cash : Cond.selects y_M_cash.cls y_M_cash y_M_cash ∈ tb := tb_3 179 rfl rfl
set_option maxRecDepth 100000 in
theorem k_W_62 : zcb "DoorActsLaw" 62 y_D_state b_D_state 3 (some .int) 1 := ⟨tb_2 217 rfl rfl, tb_1 1 rfl rfl, tb_2 214 rfl rfl, by decide +kernel, by decide +kernel, by decide +kernel⟩
set_option maxRecDepth 100000 in
theorem n_D_state : Cond.instanceMethod y_D_state ∈ tb := tb_2 215 rfl rfl
set_option maxRecDepth 100000 in
theorem v_D_state : Cond.selects y_D_state.cls y_D_state y_D_state ∈ tb := tb_2 216 rfl rfl
set_option maxRecDepth 100000 in
theorem k_W_65 : zcb "DoorActsLaw" 65 y_M_state b_M_state 2 (some .int) 1 := ⟨tb_3 184 rfl rfl, tb_1 7 rfl rfl, tb_3 181 rfl rfl, by decide +kernel, by decide +kernel, by decide +kernel⟩
set_option maxRecDepth 100000 in
theorem n_M_state : Cond.instanceMethod y_M_state ∈ tb := tb_3 182 rfl rfl
set_option maxRecDepth 100000 in
theorem v_M_state : Cond.selects y_M_state.cls y_M_state y_M_state ∈ tb := tb_3 183 rfl rfl
set_option maxRecDepth 100000 in
theorem oi_i : Cond.instanceMethod objectInit ∈ tb := by decide +kernel
set_option maxRecDepth 100000 in
theorem oi_c : Cond.code objectInit ⟨#[0xb1]⟩ 1 none ∈ tb := by decide +kernel
theorem sw_0 : zswk 0 10 #[59, 92, 135, 242, 265, 298, 347, 370, 423, 456, 519] = True := eq_true (by unfold zswk; decide)
theorem sw_1 : zswk 0 4 #[33, 97, 114, 172, 175] = True := eq_true (by unfold zswk; decide)
theorem sw_2 : zswk 0 4 #[34, 46, 34, 76, 99] = True := eq_true (by unfold zswk; decide)
theorem sw_3 : zswk 0 4 #[35, 46, 60, 87, 90] = True := eq_true (by unfold zswk; decide)
theorem sw_4 : zswk 0 4 #[35, 49, 35, 78, 100] = True := eq_true (by unfold zswk; decide)
theorem sw_5 : zswk 0 4 #[35, 54, 115, 127, 138] = True := eq_true (by unfold zswk; decide)
theorem sw_6 : zswk 1 4 #[32, 43, 52, 60] = True := eq_true (by unfold zswk; decide)
theorem zt_1_8 : zt 1 8 = 9 := rfl
theorem zo_1_8 : zo 1 8 = True := eq_true (by unfold zo; decide)
theorem zt_1_12 : zt 1 12 = 13 := rfl
theorem zo_1_12 : zo 1 12 = True := eq_true (by unfold zo; decide)
theorem zt_1_13 : zt 1 13 = 14 := rfl
theorem zo_1_13 : zo 1 13 = True := eq_true (by unfold zo; decide)
theorem zt_1_15 : zt 1 15 = 16 := rfl
theorem zo_1_15 : zo 1 15 = True := eq_true (by unfold zo; decide)
theorem zt_1_20 : zt 1 20 = 21 := rfl
theorem zo_1_20 : zo 1 20 = True := eq_true (by unfold zo; decide)
theorem zt_1_35 : zt 1 35 = 36 := rfl
theorem zo_1_35 : zo 1 35 = True := eq_true (by unfold zo; decide)
theorem zt_1_46 : zt 1 46 = 47 := rfl
theorem zo_1_46 : zo 1 46 = True := eq_true (by unfold zo; decide)
theorem zt_1_49 : zt 1 49 = 50 := rfl
theorem zo_1_49 : zo 1 49 = True := eq_true (by unfold zo; decide)
theorem zt_1_60 : zt 1 60 = 61 := rfl
theorem zo_1_60 : zo 1 60 = True := eq_true (by unfold zo; decide)
theorem zt_1_78 : zt 1 78 = 79 := rfl
theorem zo_1_78 : zo 1 78 = True := eq_true (by unfold zo; decide)
theorem zt_1_87 : zt 1 87 = 88 := rfl
theorem zo_1_87 : zo 1 87 = True := eq_true (by unfold zo; decide)
theorem zt_1_90 : zt 1 90 = 91 := rfl
theorem zo_1_90 : zo 1 90 = True := eq_true (by unfold zo; decide)
theorem zt_1_93 : zt 1 93 = 94 := rfl
theorem zo_1_93 : zo 1 93 = True := eq_true (by unfold zo; decide)
theorem zt_1_100 : zt 1 100 = 101 := rfl
theorem zo_1_100 : zo 1 100 = True := eq_true (by unfold zo; decide)
theorem zt_1_129 : zt 1 129 = 130 := rfl
theorem zo_1_129 : zo 1 129 = True := eq_true (by unfold zo; decide)
theorem zt_2_7 : zt 2 7 = 9 := rfl
theorem zo_2_7 : zo 2 7 = True := eq_true (by unfold zo; decide)
theorem zt_2_15 : zt 2 15 = 17 := rfl
theorem zo_2_15 : zo 2 15 = True := eq_true (by unfold zo; decide)
theorem zt_2_30 : zt 2 30 = 32 := rfl
theorem zo_2_30 : zo 2 30 = True := eq_true (by unfold zo; decide)
theorem zt_2_32 : zt 2 32 = 34 := rfl
theorem zo_2_32 : zo 2 32 = True := eq_true (by unfold zo; decide)
theorem zt_3_8 : zt 3 8 = 11 := rfl
theorem zo_3_8 : zo 3 8 = True := eq_true (by unfold zo; decide)
theorem zt_3_10 : zt 3 10 = 13 := rfl
theorem zo_3_10 : zo 3 10 = True := eq_true (by unfold zo; decide)
theorem zt_3_14 : zt 3 14 = 17 := rfl
theorem zo_3_14 : zo 3 14 = True := eq_true (by unfold zo; decide)
theorem zt_4_6 : zt 4 6 = 10 := rfl
theorem zo_4_6 : zo 4 6 = True := eq_true (by unfold zo; decide)
theorem zt_4_12 : zt 4 12 = 16 := rfl
theorem zo_4_12 : zo 4 12 = True := eq_true (by unfold zo; decide)
theorem zt_4_13 : zt 4 13 = 17 := rfl
theorem zo_4_13 : zo 4 13 = True := eq_true (by unfold zo; decide)
theorem zt_4_16 : zt 4 16 = 20 := rfl
theorem zo_4_16 : zo 4 16 = True := eq_true (by unfold zo; decide)
theorem zt_5_5 : zt 5 5 = 10 := rfl
theorem zo_5_5 : zo 5 5 = True := eq_true (by unfold zo; decide)
theorem zt_5_6 : zt 5 6 = 11 := rfl
theorem zo_5_6 : zo 5 6 = True := eq_true (by unfold zo; decide)
theorem zt_5_13 : zt 5 13 = 18 := rfl
theorem zo_5_13 : zo 5 13 = True := eq_true (by unfold zo; decide)
theorem zt_5_16 : zt 5 16 = 21 := rfl
theorem zo_5_16 : zo 5 16 = True := eq_true (by unfold zo; decide)
theorem zt_5_23 : zt 5 23 = 28 := rfl
theorem zo_5_23 : zo 5 23 = True := eq_true (by unfold zo; decide)
theorem zt_5_29 : zt 5 29 = 34 := rfl
theorem zo_5_29 : zo 5 29 = True := eq_true (by unfold zo; decide)
theorem zt_5_36 : zt 5 36 = 41 := rfl
theorem zo_5_36 : zo 5 36 = True := eq_true (by unfold zo; decide)
theorem zt_5_44 : zt 5 44 = 49 := rfl
theorem zo_5_44 : zo 5 44 = True := eq_true (by unfold zo; decide)
theorem zt_6_4 : zt 6 4 = 10 := rfl
theorem zo_6_4 : zo 6 4 = True := eq_true (by unfold zo; decide)
theorem zt_6_6 : zt 6 6 = 12 := rfl
theorem zo_6_6 : zo 6 6 = True := eq_true (by unfold zo; decide)
theorem zt_6_10 : zt 6 10 = 16 := rfl
theorem zo_6_10 : zo 6 10 = True := eq_true (by unfold zo; decide)
theorem zt_6_11 : zt 6 11 = 17 := rfl
theorem zo_6_11 : zo 6 11 = True := eq_true (by unfold zo; decide)
theorem zt_6_15 : zt 6 15 = 21 := rfl
theorem zo_6_15 : zo 6 15 = True := eq_true (by unfold zo; decide)
theorem zt_7_6 : zt 7 6 = 13 := rfl
theorem zo_7_6 : zo 7 6 = True := eq_true (by unfold zo; decide)
theorem zt_7_7 : zt 7 7 = 14 := rfl
theorem zo_7_7 : zo 7 7 = True := eq_true (by unfold zo; decide)
theorem zt_7_8 : zt 7 8 = 15 := rfl
theorem zo_7_8 : zo 7 8 = True := eq_true (by unfold zo; decide)
theorem zt_7_13 : zt 7 13 = 20 := rfl
theorem zo_7_13 : zo 7 13 = True := eq_true (by unfold zo; decide)
theorem zt_7_21 : zt 7 21 = 28 := rfl
theorem zo_7_21 : zo 7 21 = True := eq_true (by unfold zo; decide)
theorem zt_8_5 : zt 8 5 = 13 := rfl
theorem zo_8_5 : zo 8 5 = True := eq_true (by unfold zo; decide)
theorem zt_8_8 : zt 8 8 = 16 := rfl
theorem zo_8_8 : zo 8 8 = True := eq_true (by unfold zo; decide)
theorem zt_8_28 : zt 8 28 = 36 := rfl
theorem zo_8_28 : zo 8 28 = True := eq_true (by unfold zo; decide)
theorem zt_9_6 : zt 9 6 = 15 := rfl
theorem zo_9_6 : zo 9 6 = True := eq_true (by unfold zo; decide)
theorem zt_9_15 : zt 9 15 = 24 := rfl
theorem zo_9_15 : zo 9 15 = True := eq_true (by unfold zo; decide)
theorem zt_9_32 : zt 9 32 = 41 := rfl
theorem zo_9_32 : zo 9 32 = True := eq_true (by unfold zo; decide)
theorem zt_9_35 : zt 9 35 = 44 := rfl
theorem zo_9_35 : zo 9 35 = True := eq_true (by unfold zo; decide)
theorem zt_9_54 : zt 9 54 = 63 := rfl
theorem zo_9_54 : zo 9 54 = True := eq_true (by unfold zo; decide)
theorem zt_9_115 : zt 9 115 = 124 := rfl
theorem zo_9_115 : zo 9 115 = True := eq_true (by unfold zo; decide)
theorem zt_9_127 : zt 9 127 = 136 := rfl
theorem zo_9_127 : zo 9 127 = True := eq_true (by unfold zo; decide)
theorem zt_9_138 : zt 9 138 = 147 := rfl
theorem zo_9_138 : zo 9 138 = True := eq_true (by unfold zo; decide)
theorem zt_9_191 : zt 9 191 = 200 := rfl
theorem zo_9_191 : zo 9 191 = True := eq_true (by unfold zo; decide)
theorem zt_10_7 : zt 10 7 = 17 := rfl
theorem zo_10_7 : zo 10 7 = True := eq_true (by unfold zo; decide)
theorem zt_10_11 : zt 10 11 = 21 := rfl
theorem zo_10_11 : zo 10 11 = True := eq_true (by unfold zo; decide)
theorem zt_10_14 : zt 10 14 = 24 := rfl
theorem zo_10_14 : zo 10 14 = True := eq_true (by unfold zo; decide)
theorem zt_10_22 : zt 10 22 = 32 := rfl
theorem zo_10_22 : zo 10 22 = True := eq_true (by unfold zo; decide)
theorem zt_11_4 : zt 11 4 = 15 := rfl
theorem zo_11_4 : zo 11 4 = True := eq_true (by unfold zo; decide)
theorem zt_11_6 : zt 11 6 = 17 := rfl
theorem zo_11_6 : zo 11 6 = True := eq_true (by unfold zo; decide)
theorem zt_11_10 : zt 11 10 = 21 := rfl
theorem zo_11_10 : zo 11 10 = True := eq_true (by unfold zo; decide)
theorem zt_12_10 : zt 12 10 = 22 := rfl
theorem zo_12_10 : zo 12 10 = True := eq_true (by unfold zo; decide)
theorem zt_12_25 : zt 12 25 = 37 := rfl
theorem zo_12_25 : zo 12 25 = True := eq_true (by unfold zo; decide)
theorem zt_12_32 : zt 12 32 = 44 := rfl
theorem zo_12_32 : zo 12 32 = True := eq_true (by unfold zo; decide)
theorem zt_12_43 : zt 12 43 = 55 := rfl
theorem zo_12_43 : zo 12 43 = True := eq_true (by unfold zo; decide)
theorem zt_12_52 : zt 12 52 = 64 := rfl
theorem zo_12_52 : zo 12 52 = True := eq_true (by unfold zo; decide)
theorem zt_12_60 : zt 12 60 = 72 := rfl
theorem zo_12_60 : zo 12 60 = True := eq_true (by unfold zo; decide)
theorem zt_12_68 : zt 12 68 = 80 := rfl
theorem zo_12_68 : zo 12 68 = True := eq_true (by unfold zo; decide)
theorem zt_12_76 : zt 12 76 = 88 := rfl
theorem zo_12_76 : zo 12 76 = True := eq_true (by unfold zo; decide)
theorem zt_13_6 : zt 13 6 = 19 := rfl
theorem zo_13_6 : zo 13 6 = True := eq_true (by unfold zo; decide)
theorem zt_13_14 : zt 13 14 = 27 := rfl
theorem zo_13_14 : zo 13 14 = True := eq_true (by unfold zo; decide)
theorem zt_13_19 : zt 13 19 = 32 := rfl
theorem zo_13_19 : zo 13 19 = True := eq_true (by unfold zo; decide)
theorem zt_14_4 : zt 14 4 = 18 := rfl
theorem zo_14_4 : zo 14 4 = True := eq_true (by unfold zo; decide)
theorem zt_14_5 : zt 14 5 = 19 := rfl
theorem zo_14_5 : zo 14 5 = True := eq_true (by unfold zo; decide)
theorem zt_14_6 : zt 14 6 = 20 := rfl
theorem zo_14_6 : zo 14 6 = True := eq_true (by unfold zo; decide)
theorem zt_14_7 : zt 14 7 = 21 := rfl
theorem zo_14_7 : zo 14 7 = True := eq_true (by unfold zo; decide)
theorem zt_14_16 : zt 14 16 = 30 := rfl
theorem zo_14_16 : zo 14 16 = True := eq_true (by unfold zo; decide)
theorem zt_15_5 : zt 15 5 = 20 := rfl
theorem zo_15_5 : zo 15 5 = True := eq_true (by unfold zo; decide)
theorem zt_15_13 : zt 15 13 = 28 := rfl
theorem zo_15_13 : zo 15 13 = True := eq_true (by unfold zo; decide)
theorem zt_16_5 : zt 16 5 = 21 := rfl
theorem zo_16_5 : zo 16 5 = True := eq_true (by unfold zo; decide)
theorem zt_16_6 : zt 16 6 = 22 := rfl
theorem zo_16_6 : zo 16 6 = True := eq_true (by unfold zo; decide)
theorem zt_16_7 : zt 16 7 = 23 := rfl
theorem zo_16_7 : zo 16 7 = True := eq_true (by unfold zo; decide)
theorem zt_16_11 : zt 16 11 = 27 := rfl
theorem zo_16_11 : zo 16 11 = True := eq_true (by unfold zo; decide)
theorem zt_17_5 : zt 17 5 = 22 := rfl
theorem zo_17_5 : zo 17 5 = True := eq_true (by unfold zo; decide)
theorem zt_17_11 : zt 17 11 = 28 := rfl
theorem zo_17_11 : zo 17 11 = True := eq_true (by unfold zo; decide)
theorem zt_17_28 : zt 17 28 = 45 := rfl
theorem zo_17_28 : zo 17 28 = True := eq_true (by unfold zo; decide)
theorem zt_18_4 : zt 18 4 = 22 := rfl
theorem zo_18_4 : zo 18 4 = True := eq_true (by unfold zo; decide)
theorem zt_18_5 : zt 18 5 = 23 := rfl
theorem zo_18_5 : zo 18 5 = True := eq_true (by unfold zo; decide)
theorem zt_18_11 : zt 18 11 = 29 := rfl
theorem zo_18_11 : zo 18 11 = True := eq_true (by unfold zo; decide)
theorem zt_18_31 : zt 18 31 = 49 := rfl
theorem zo_18_31 : zo 18 31 = True := eq_true (by unfold zo; decide)
theorem zt_18_34 : zt 18 34 = 52 := rfl
theorem zo_18_34 : zo 18 34 = True := eq_true (by unfold zo; decide)
theorem zt_18_46 : zt 18 46 = 64 := rfl
theorem zo_18_46 : zo 18 46 = True := eq_true (by unfold zo; decide)
theorem zt_18_76 : zt 18 76 = 94 := rfl
theorem zo_18_76 : zo 18 76 = True := eq_true (by unfold zo; decide)
theorem zt_18_99 : zt 18 99 = 117 := rfl
theorem zo_18_99 : zo 18 99 = True := eq_true (by unfold zo; decide)
theorem zt_18_143 : zt 18 143 = 161 := rfl
theorem zo_18_143 : zo 18 143 = True := eq_true (by unfold zo; decide)
theorem zt_19_5 : zt 19 5 = 24 := rfl
theorem zo_19_5 : zo 19 5 = True := eq_true (by unfold zo; decide)
theorem zt_19_6 : zt 19 6 = 25 := rfl
theorem zo_19_6 : zo 19 6 = True := eq_true (by unfold zo; decide)
theorem zt_19_17 : zt 19 17 = 36 := rfl
theorem zo_19_17 : zo 19 17 = True := eq_true (by unfold zo; decide)
theorem zt_20_4 : zt 20 4 = 24 := rfl
theorem zo_20_4 : zo 20 4 = True := eq_true (by unfold zo; decide)
theorem zt_20_16 : zt 20 16 = 36 := rfl
theorem zo_20_16 : zo 20 16 = True := eq_true (by unfold zo; decide)
theorem zt_21_6 : zt 21 6 = 27 := rfl
theorem zo_21_6 : zo 21 6 = True := eq_true (by unfold zo; decide)
theorem zt_21_7 : zt 21 7 = 28 := rfl
theorem zo_21_7 : zo 21 7 = True := eq_true (by unfold zo; decide)
theorem zt_21_14 : zt 21 14 = 35 := rfl
theorem zo_21_14 : zo 21 14 = True := eq_true (by unfold zo; decide)
theorem zt_21_16 : zt 21 16 = 37 := rfl
theorem zo_21_16 : zo 21 16 = True := eq_true (by unfold zo; decide)
theorem zt_21_20 : zt 21 20 = 41 := rfl
theorem zo_21_20 : zo 21 20 = True := eq_true (by unfold zo; decide)
theorem zt_22_6 : zt 22 6 = 28 := rfl
theorem zo_22_6 : zo 22 6 = True := eq_true (by unfold zo; decide)
theorem zt_22_7 : zt 22 7 = 29 := rfl
theorem zo_22_7 : zo 22 7 = True := eq_true (by unfold zo; decide)
theorem zt_23_18 : zt 23 18 = 41 := rfl
theorem zo_23_18 : zo 23 18 = True := eq_true (by unfold zo; decide)
theorem zt_23_19 : zt 23 19 = 42 := rfl
theorem zo_23_19 : zo 23 19 = True := eq_true (by unfold zo; decide)
theorem zt_23_34 : zt 23 34 = 57 := rfl
theorem zo_23_34 : zo 23 34 = True := eq_true (by unfold zo; decide)
theorem zt_24_5 : zt 24 5 = 29 := rfl
theorem zo_24_5 : zo 24 5 = True := eq_true (by unfold zo; decide)
theorem zt_24_8 : zt 24 8 = 32 := rfl
theorem zo_24_8 : zo 24 8 = True := eq_true (by unfold zo; decide)
theorem zt_24_11 : zt 24 11 = 35 := rfl
theorem zo_24_11 : zo 24 11 = True := eq_true (by unfold zo; decide)
theorem zt_24_557 : zt 24 557 = 581 := rfl
theorem zo_24_557 : zo 24 557 = True := eq_true (by unfold zo; decide)
theorem zt_25_m23 : zt 25 (-23) = 2 := rfl
theorem zo_25_m23 : zo 25 (-23) = True := eq_true (by unfold zo; decide)
theorem zt_25_4 : zt 25 4 = 29 := rfl
theorem zo_25_4 : zo 25 4 = True := eq_true (by unfold zo; decide)
theorem zt_25_6 : zt 25 6 = 31 := rfl
theorem zo_25_6 : zo 25 6 = True := eq_true (by unfold zo; decide)
theorem zt_25_7 : zt 25 7 = 32 := rfl
theorem zo_25_7 : zo 25 7 = True := eq_true (by unfold zo; decide)
theorem zt_26_6 : zt 26 6 = 32 := rfl
theorem zo_26_6 : zo 26 6 = True := eq_true (by unfold zo; decide)
theorem zt_26_15 : zt 26 15 = 41 := rfl
theorem zo_26_15 : zo 26 15 = True := eq_true (by unfold zo; decide)
theorem zt_26_18 : zt 26 18 = 44 := rfl
theorem zo_26_18 : zo 26 18 = True := eq_true (by unfold zo; decide)
theorem zt_27_16 : zt 27 16 = 43 := rfl
theorem zo_27_16 : zo 27 16 = True := eq_true (by unfold zo; decide)
theorem zt_27_17 : zt 27 17 = 44 := rfl
theorem zo_27_17 : zo 27 17 = True := eq_true (by unfold zo; decide)
theorem zt_27_33 : zt 27 33 = 60 := rfl
theorem zo_27_33 : zo 27 33 = True := eq_true (by unfold zo; decide)
theorem zt_27_97 : zt 27 97 = 124 := rfl
theorem zo_27_97 : zo 27 97 = True := eq_true (by unfold zo; decide)
theorem zt_27_114 : zt 27 114 = 141 := rfl
theorem zo_27_114 : zo 27 114 = True := eq_true (by unfold zo; decide)
theorem zt_27_172 : zt 27 172 = 199 := rfl
theorem zo_27_172 : zo 27 172 = True := eq_true (by unfold zo; decide)
theorem zt_27_175 : zt 27 175 = 202 := rfl
theorem zo_27_175 : zo 27 175 = True := eq_true (by unfold zo; decide)
theorem zt_27_178 : zt 27 178 = 205 := rfl
theorem zo_27_178 : zo 27 178 = True := eq_true (by unfold zo; decide)
theorem zt_28_6 : zt 28 6 = 34 := rfl
theorem zo_28_6 : zo 28 6 = True := eq_true (by unfold zo; decide)
theorem zt_28_8 : zt 28 8 = 36 := rfl
theorem zo_28_8 : zo 28 8 = True := eq_true (by unfold zo; decide)
theorem zt_29_4 : zt 29 4 = 33 := rfl
theorem zo_29_4 : zo 29 4 = True := eq_true (by unfold zo; decide)
theorem zt_29_7 : zt 29 7 = 36 := rfl
theorem zo_29_7 : zo 29 7 = True := eq_true (by unfold zo; decide)
theorem zt_29_13 : zt 29 13 = 42 := rfl
theorem zo_29_13 : zo 29 13 = True := eq_true (by unfold zo; decide)
theorem zt_30_12 : zt 30 12 = 42 := rfl
theorem zo_30_12 : zo 30 12 = True := eq_true (by unfold zo; decide)
theorem zt_31_6 : zt 31 6 = 37 := rfl
theorem zo_31_6 : zo 31 6 = True := eq_true (by unfold zo; decide)
theorem zt_32_27 : zt 32 27 = 59 := rfl
theorem zo_32_27 : zo 32 27 = True := eq_true (by unfold zo; decide)
theorem zt_32_46 : zt 32 46 = 78 := rfl
theorem zo_32_46 : zo 32 46 = True := eq_true (by unfold zo; decide)
theorem zt_33_4 : zt 33 4 = 37 := rfl
theorem zo_33_4 : zo 33 4 = True := eq_true (by unfold zo; decide)
theorem zt_33_6 : zt 33 6 = 39 := rfl
theorem zo_33_6 : zo 33 6 = True := eq_true (by unfold zo; decide)
theorem zt_33_10 : zt 33 10 = 43 := rfl
theorem zo_33_10 : zo 33 10 = True := eq_true (by unfold zo; decide)
theorem zt_33_16 : zt 33 16 = 49 := rfl
theorem zo_33_16 : zo 33 16 = True := eq_true (by unfold zo; decide)
theorem zt_33_59 : zt 33 59 = 92 := rfl
theorem zo_33_59 : zo 33 59 = True := eq_true (by unfold zo; decide)
theorem zt_33_60 : zt 33 60 = 93 := rfl
theorem zo_33_60 : zo 33 60 = True := eq_true (by unfold zo; decide)
theorem zt_33_92 : zt 33 92 = 125 := rfl
theorem zo_33_92 : zo 33 92 = True := eq_true (by unfold zo; decide)
theorem zt_33_135 : zt 33 135 = 168 := rfl
theorem zo_33_135 : zo 33 135 = True := eq_true (by unfold zo; decide)
theorem zt_33_242 : zt 33 242 = 275 := rfl
theorem zo_33_242 : zo 33 242 = True := eq_true (by unfold zo; decide)
theorem zt_33_265 : zt 33 265 = 298 := rfl
theorem zo_33_265 : zo 33 265 = True := eq_true (by unfold zo; decide)
theorem zt_33_298 : zt 33 298 = 331 := rfl
theorem zo_33_298 : zo 33 298 = True := eq_true (by unfold zo; decide)
theorem zt_33_347 : zt 33 347 = 380 := rfl
theorem zo_33_347 : zo 33 347 = True := eq_true (by unfold zo; decide)
theorem zt_33_370 : zt 33 370 = 403 := rfl
theorem zo_33_370 : zo 33 370 = True := eq_true (by unfold zo; decide)
theorem zt_33_423 : zt 33 423 = 456 := rfl
theorem zo_33_423 : zo 33 423 = True := eq_true (by unfold zo; decide)
theorem zt_33_456 : zt 33 456 = 489 := rfl
theorem zo_33_456 : zo 33 456 = True := eq_true (by unfold zo; decide)
theorem zt_33_519 : zt 33 519 = 552 := rfl
theorem zo_33_519 : zo 33 519 = True := eq_true (by unfold zo; decide)
theorem zt_33_542 : zt 33 542 = 575 := rfl
theorem zo_33_542 : zo 33 542 = True := eq_true (by unfold zo; decide)
theorem zt_34_7 : zt 34 7 = 41 := rfl
theorem zo_34_7 : zo 34 7 = True := eq_true (by unfold zo; decide)
theorem zt_34_23 : zt 34 23 = 57 := rfl
theorem zo_34_23 : zo 34 23 = True := eq_true (by unfold zo; decide)
theorem zt_35_8 : zt 35 8 = 43 := rfl
theorem zo_35_8 : zo 35 8 = True := eq_true (by unfold zo; decide)
theorem zt_36_7 : zt 36 7 = 43 := rfl
theorem zo_36_7 : zo 36 7 = True := eq_true (by unfold zo; decide)
theorem zt_36_139 : zt 36 139 = 175 := rfl
theorem zo_36_139 : zo 36 139 = True := eq_true (by unfold zo; decide)
theorem zt_37_14 : zt 37 14 = 51 := rfl
theorem zo_37_14 : zo 37 14 = True := eq_true (by unfold zo; decide)
theorem zt_38_4 : zt 38 4 = 42 := rfl
theorem zo_38_4 : zo 38 4 = True := eq_true (by unfold zo; decide)
theorem zt_38_5 : zt 38 5 = 43 := rfl
theorem zo_38_5 : zo 38 5 = True := eq_true (by unfold zo; decide)
theorem zt_38_6 : zt 38 6 = 44 := rfl
theorem zo_38_6 : zo 38 6 = True := eq_true (by unfold zo; decide)
theorem zt_38_8 : zt 38 8 = 46 := rfl
theorem zo_38_8 : zo 38 8 = True := eq_true (by unfold zo; decide)
theorem zt_38_13 : zt 38 13 = 51 := rfl
theorem zo_38_13 : zo 38 13 = True := eq_true (by unfold zo; decide)
theorem zt_38_26 : zt 38 26 = 64 := rfl
theorem zo_38_26 : zo 38 26 = True := eq_true (by unfold zo; decide)
theorem zt_39_m12 : zt 39 (-12) = 27 := rfl
theorem zo_39_m12 : zo 39 (-12) = True := eq_true (by unfold zo; decide)
theorem zt_39_5 : zt 39 5 = 44 := rfl
theorem zo_39_5 : zo 39 5 = True := eq_true (by unfold zo; decide)
theorem zt_39_6 : zt 39 6 = 45 := rfl
theorem zo_39_6 : zo 39 6 = True := eq_true (by unfold zo; decide)
theorem zt_39_12 : zt 39 12 = 51 := rfl
theorem zo_39_12 : zo 39 12 = True := eq_true (by unfold zo; decide)
theorem zt_39_14 : zt 39 14 = 53 := rfl
theorem zo_39_14 : zo 39 14 = True := eq_true (by unfold zo; decide)
theorem zt_39_23 : zt 39 23 = 62 := rfl
theorem zo_39_23 : zo 39 23 = True := eq_true (by unfold zo; decide)
theorem zt_39_34 : zt 39 34 = 73 := rfl
theorem zo_39_34 : zo 39 34 = True := eq_true (by unfold zo; decide)
theorem zt_40_4 : zt 40 4 = 44 := rfl
theorem zo_40_4 : zo 40 4 = True := eq_true (by unfold zo; decide)
theorem zt_40_5 : zt 40 5 = 45 := rfl
theorem zo_40_5 : zo 40 5 = True := eq_true (by unfold zo; decide)
theorem zt_41_7 : zt 41 7 = 48 := rfl
theorem zo_41_7 : zo 41 7 = True := eq_true (by unfold zo; decide)
theorem zt_41_28 : zt 41 28 = 69 := rfl
theorem zo_41_28 : zo 41 28 = True := eq_true (by unfold zo; decide)
theorem zt_42_8 : zt 42 8 = 50 := rfl
theorem zo_42_8 : zo 42 8 = True := eq_true (by unfold zo; decide)
theorem zt_42_12 : zt 42 12 = 54 := rfl
theorem zo_42_12 : zo 42 12 = True := eq_true (by unfold zo; decide)
theorem zt_43_7 : zt 43 7 = 50 := rfl
theorem zo_43_7 : zo 43 7 = True := eq_true (by unfold zo; decide)
theorem zt_43_8 : zt 43 8 = 51 := rfl
theorem zo_43_8 : zo 43 8 = True := eq_true (by unfold zo; decide)
theorem zt_44_12 : zt 44 12 = 56 := rfl
theorem zo_44_12 : zo 44 12 = True := eq_true (by unfold zo; decide)
theorem zt_45_4 : zt 45 4 = 49 := rfl
theorem zo_45_4 : zo 45 4 = True := eq_true (by unfold zo; decide)
theorem zt_45_33 : zt 45 33 = 78 := rfl
theorem zo_45_33 : zo 45 33 = True := eq_true (by unfold zo; decide)
theorem zt_46_4 : zt 46 4 = 50 := rfl
theorem zo_46_4 : zo 46 4 = True := eq_true (by unfold zo; decide)
theorem zt_46_11 : zt 46 11 = 57 := rfl
theorem zo_46_11 : zo 46 11 = True := eq_true (by unfold zo; decide)
theorem zt_46_13 : zt 46 13 = 59 := rfl
theorem zo_46_13 : zo 46 13 = True := eq_true (by unfold zo; decide)
theorem zt_46_23 : zt 46 23 = 69 := rfl
theorem zo_46_23 : zo 46 23 = True := eq_true (by unfold zo; decide)
theorem zt_47_4 : zt 47 4 = 51 := rfl
theorem zo_47_4 : zo 47 4 = True := eq_true (by unfold zo; decide)
theorem zt_47_8 : zt 47 8 = 55 := rfl
theorem zo_47_8 : zo 47 8 = True := eq_true (by unfold zo; decide)
theorem zt_47_11 : zt 47 11 = 58 := rfl
theorem zo_47_11 : zo 47 11 = True := eq_true (by unfold zo; decide)
theorem zt_47_23 : zt 47 23 = 70 := rfl
theorem zo_47_23 : zo 47 23 = True := eq_true (by unfold zo; decide)
theorem zt_48_7 : zt 48 7 = 55 := rfl
theorem zo_48_7 : zo 48 7 = True := eq_true (by unfold zo; decide)
theorem zt_48_8 : zt 48 8 = 56 := rfl
theorem zo_48_8 : zo 48 8 = True := eq_true (by unfold zo; decide)
theorem zt_48_154 : zt 48 154 = 202 := rfl
theorem zo_48_154 : zo 48 154 = True := eq_true (by unfold zo; decide)
theorem zt_50_7 : zt 50 7 = 57 := rfl
theorem zo_50_7 : zo 50 7 = True := eq_true (by unfold zo; decide)
theorem zt_50_14 : zt 50 14 = 64 := rfl
theorem zo_50_14 : zo 50 14 = True := eq_true (by unfold zo; decide)
theorem zt_51_6 : zt 51 6 = 57 := rfl
theorem zo_51_6 : zo 51 6 = True := eq_true (by unfold zo; decide)
theorem zt_51_7 : zt 51 7 = 58 := rfl
theorem zo_51_7 : zo 51 7 = True := eq_true (by unfold zo; decide)
theorem zt_51_18 : zt 51 18 = 69 := rfl
theorem zo_51_18 : zo 51 18 = True := eq_true (by unfold zo; decide)
theorem zt_51_19 : zt 51 19 = 70 := rfl
theorem zo_51_19 : zo 51 19 = True := eq_true (by unfold zo; decide)
theorem zt_51_21 : zt 51 21 = 72 := rfl
theorem zo_51_21 : zo 51 21 = True := eq_true (by unfold zo; decide)
theorem zt_51_25 : zt 51 25 = 76 := rfl
theorem zo_51_25 : zo 51 25 = True := eq_true (by unfold zo; decide)
theorem zt_52_4 : zt 52 4 = 56 := rfl
theorem zo_52_4 : zo 52 4 = True := eq_true (by unfold zo; decide)
theorem zt_52_6 : zt 52 6 = 58 := rfl
theorem zo_52_6 : zo 52 6 = True := eq_true (by unfold zo; decide)
theorem zt_52_10 : zt 52 10 = 62 := rfl
theorem zo_52_10 : zo 52 10 = True := eq_true (by unfold zo; decide)
theorem zt_52_13 : zt 52 13 = 65 := rfl
theorem zo_52_13 : zo 52 13 = True := eq_true (by unfold zo; decide)
theorem zt_52_35 : zt 52 35 = 87 := rfl
theorem zo_52_35 : zo 52 35 = True := eq_true (by unfold zo; decide)
theorem zt_52_41 : zt 52 41 = 93 := rfl
theorem zo_52_41 : zo 52 41 = True := eq_true (by unfold zo; decide)
theorem zt_52_150 : zt 52 150 = 202 := rfl
theorem zo_52_150 : zo 52 150 = True := eq_true (by unfold zo; decide)
theorem zt_53_9 : zt 53 9 = 62 := rfl
theorem zo_53_9 : zo 53 9 = True := eq_true (by unfold zo; decide)
theorem zt_53_21 : zt 53 21 = 74 := rfl
theorem zo_53_21 : zo 53 21 = True := eq_true (by unfold zo; decide)
theorem zt_54_4 : zt 54 4 = 58 := rfl
theorem zo_54_4 : zo 54 4 = True := eq_true (by unfold zo; decide)
theorem zt_54_19 : zt 54 19 = 73 := rfl
theorem zo_54_19 : zo 54 19 = True := eq_true (by unfold zo; decide)
theorem zt_55_4 : zt 55 4 = 59 := rfl
theorem zo_55_4 : zo 55 4 = True := eq_true (by unfold zo; decide)
theorem zt_55_5 : zt 55 5 = 60 := rfl
theorem zo_55_5 : zo 55 5 = True := eq_true (by unfold zo; decide)
theorem zt_55_6 : zt 55 6 = 61 := rfl
theorem zo_55_6 : zo 55 6 = True := eq_true (by unfold zo; decide)
theorem zt_55_7 : zt 55 7 = 62 := rfl
theorem zo_55_7 : zo 55 7 = True := eq_true (by unfold zo; decide)
theorem zt_56_6 : zt 56 6 = 62 := rfl
theorem zo_56_6 : zo 56 6 = True := eq_true (by unfold zo; decide)
theorem zt_56_22 : zt 56 22 = 78 := rfl
theorem zo_56_22 : zo 56 22 = True := eq_true (by unfold zo; decide)
theorem zt_57_78 : zt 57 78 = 135 := rfl
theorem zo_57_78 : zo 57 78 = True := eq_true (by unfold zo; decide)
theorem zt_59_4 : zt 59 4 = 63 := rfl
theorem zo_59_4 : zo 59 4 = True := eq_true (by unfold zo; decide)
theorem zt_59_7 : zt 59 7 = 66 := rfl
theorem zo_59_7 : zo 59 7 = True := eq_true (by unfold zo; decide)
theorem zt_59_9 : zt 59 9 = 68 := rfl
theorem zo_59_9 : zo 59 9 = True := eq_true (by unfold zo; decide)
theorem zt_59_13 : zt 59 13 = 72 := rfl
theorem zo_59_13 : zo 59 13 = True := eq_true (by unfold zo; decide)
theorem zt_60_6 : zt 60 6 = 66 := rfl
theorem zo_60_6 : zo 60 6 = True := eq_true (by unfold zo; decide)
theorem zt_60_9 : zt 60 9 = 69 := rfl
theorem zo_60_9 : zo 60 9 = True := eq_true (by unfold zo; decide)
theorem zt_60_153 : zt 60 153 = 213 := rfl
theorem zo_60_153 : zo 60 153 = True := eq_true (by unfold zo; decide)
theorem zt_61_6 : zt 61 6 = 67 := rfl
theorem zo_61_6 : zo 61 6 = True := eq_true (by unfold zo; decide)
theorem zt_61_32 : zt 61 32 = 93 := rfl
theorem zo_61_32 : zo 61 32 = True := eq_true (by unfold zo; decide)
theorem zt_62_7 : zt 62 7 = 69 := rfl
theorem zo_62_7 : zo 62 7 = True := eq_true (by unfold zo; decide)
theorem zt_62_8 : zt 62 8 = 70 := rfl
theorem zo_62_8 : zo 62 8 = True := eq_true (by unfold zo; decide)
theorem zt_62_15 : zt 62 15 = 77 := rfl
theorem zo_62_15 : zo 62 15 = True := eq_true (by unfold zo; decide)
theorem zt_63_7 : zt 63 7 = 70 := rfl
theorem zo_63_7 : zo 63 7 = True := eq_true (by unfold zo; decide)
theorem zt_64_5 : zt 64 5 = 69 := rfl
theorem zo_64_5 : zo 64 5 = True := eq_true (by unfold zo; decide)
theorem zt_64_23 : zt 64 23 = 87 := rfl
theorem zo_64_23 : zo 64 23 = True := eq_true (by unfold zo; decide)
theorem zt_65_7 : zt 65 7 = 72 := rfl
theorem zo_65_7 : zo 65 7 = True := eq_true (by unfold zo; decide)
theorem zt_66_4 : zt 66 4 = 70 := rfl
theorem zo_66_4 : zo 66 4 = True := eq_true (by unfold zo; decide)
theorem zt_66_5 : zt 66 5 = 71 := rfl
theorem zo_66_5 : zo 66 5 = True := eq_true (by unfold zo; decide)
theorem zt_66_22 : zt 66 22 = 88 := rfl
theorem zo_66_22 : zo 66 22 = True := eq_true (by unfold zo; decide)
theorem zt_67_5 : zt 67 5 = 72 := rfl
theorem zo_67_5 : zo 67 5 = True := eq_true (by unfold zo; decide)
theorem zt_67_13 : zt 67 13 = 80 := rfl
theorem zo_67_13 : zo 67 13 = True := eq_true (by unfold zo; decide)
theorem zt_69_m62 : zt 69 (-62) = 7 := rfl
theorem zo_69_m62 : zo 69 (-62) = True := eq_true (by unfold zo; decide)
theorem zt_69_4 : zt 69 4 = 73 := rfl
theorem zo_69_4 : zo 69 4 = True := eq_true (by unfold zo; decide)
theorem zt_69_6 : zt 69 6 = 75 := rfl
theorem zo_69_6 : zo 69 6 = True := eq_true (by unfold zo; decide)
theorem zt_69_15 : zt 69 15 = 84 := rfl
theorem zo_69_15 : zo 69 15 = True := eq_true (by unfold zo; decide)
theorem zt_69_24 : zt 69 24 = 93 := rfl
theorem zo_69_24 : zo 69 24 = True := eq_true (by unfold zo; decide)
theorem zt_69_66 : zt 69 66 = 135 := rfl
theorem zo_69_66 : zo 69 66 = True := eq_true (by unfold zo; decide)
theorem zt_70_m40 : zt 70 (-40) = 30 := rfl
theorem zo_70_m40 : zo 70 (-40) = True := eq_true (by unfold zo; decide)
theorem zt_70_7 : zt 70 7 = 77 := rfl
theorem zo_70_7 : zo 70 7 = True := eq_true (by unfold zo; decide)
theorem zt_72_20 : zt 72 20 = 92 := rfl
theorem zo_72_20 : zo 72 20 = True := eq_true (by unfold zo; decide)
theorem zt_72_21 : zt 72 21 = 93 := rfl
theorem zo_72_21 : zo 72 21 = True := eq_true (by unfold zo; decide)
theorem zt_73_m26 : zt 73 (-26) = 47 := rfl
theorem zo_73_m26 : zo 73 (-26) = True := eq_true (by unfold zo; decide)
theorem zt_73_6 : zt 73 6 = 79 := rfl
theorem zo_73_6 : zo 73 6 = True := eq_true (by unfold zo; decide)
theorem zt_74_4 : zt 74 4 = 78 := rfl
theorem zo_74_4 : zo 74 4 = True := eq_true (by unfold zo; decide)
theorem zt_74_23 : zt 74 23 = 97 := rfl
theorem zo_74_23 : zo 74 23 = True := eq_true (by unfold zo; decide)
theorem zt_74_30 : zt 74 30 = 104 := rfl
theorem zo_74_30 : zo 74 30 = True := eq_true (by unfold zo; decide)
theorem zt_75_m22 : zt 75 (-22) = 53 := rfl
theorem zo_75_m22 : zo 75 (-22) = True := eq_true (by unfold zo; decide)
theorem zt_77_m71 : zt 77 (-71) = 6 := rfl
theorem zo_77_m71 : zo 77 (-71) = True := eq_true (by unfold zo; decide)
theorem zt_77_7 : zt 77 7 = 84 := rfl
theorem zo_77_7 : zo 77 7 = True := eq_true (by unfold zo; decide)
theorem zt_77_8 : zt 77 8 = 85 := rfl
theorem zo_77_8 : zo 77 8 = True := eq_true (by unfold zo; decide)
theorem zt_77_15 : zt 77 15 = 92 := rfl
theorem zo_77_15 : zo 77 15 = True := eq_true (by unfold zo; decide)
theorem zt_78_6 : zt 78 6 = 84 := rfl
theorem zo_78_6 : zo 78 6 = True := eq_true (by unfold zo; decide)
theorem zt_78_9 : zt 78 9 = 87 := rfl
theorem zo_78_9 : zo 78 9 = True := eq_true (by unfold zo; decide)
theorem zt_79_9 : zt 79 9 = 88 := rfl
theorem zo_79_9 : zo 79 9 = True := eq_true (by unfold zo; decide)
theorem zt_79_43 : zt 79 43 = 122 := rfl
theorem zo_79_43 : zo 79 43 = True := eq_true (by unfold zo; decide)
theorem zt_81_6 : zt 81 6 = 87 := rfl
theorem zo_81_6 : zo 81 6 = True := eq_true (by unfold zo; decide)
theorem zt_82_5 : zt 82 5 = 87 := rfl
theorem zo_82_5 : zo 82 5 = True := eq_true (by unfold zo; decide)
theorem zt_84_7 : zt 84 7 = 91 := rfl
theorem zo_84_7 : zo 84 7 = True := eq_true (by unfold zo; decide)
theorem zt_85_7 : zt 85 7 = 92 := rfl
theorem zo_85_7 : zo 85 7 = True := eq_true (by unfold zo; decide)
theorem zt_85_8 : zt 85 8 = 93 := rfl
theorem zo_85_8 : zo 85 8 = True := eq_true (by unfold zo; decide)
theorem zt_85_12 : zt 85 12 = 97 := rfl
theorem zo_85_12 : zo 85 12 = True := eq_true (by unfold zo; decide)
theorem zt_85_14 : zt 85 14 = 99 := rfl
theorem zo_85_14 : zo 85 14 = True := eq_true (by unfold zo; decide)
theorem zt_86_6 : zt 86 6 = 92 := rfl
theorem zo_86_6 : zo 86 6 = True := eq_true (by unfold zo; decide)
theorem zt_87_45 : zt 87 45 = 132 := rfl
theorem zo_87_45 : zo 87 45 = True := eq_true (by unfold zo; decide)
theorem zt_88_4 : zt 88 4 = 92 := rfl
theorem zo_88_4 : zo 88 4 = True := eq_true (by unfold zo; decide)
theorem zt_88_8 : zt 88 8 = 96 := rfl
theorem zo_88_8 : zo 88 8 = True := eq_true (by unfold zo; decide)
theorem zt_89_4 : zt 89 4 = 93 := rfl
theorem zo_89_4 : zo 89 4 = True := eq_true (by unfold zo; decide)
theorem zt_90_m63 : zt 90 (-63) = 27 := rfl
theorem zo_90_m63 : zo 90 (-63) = True := eq_true (by unfold zo; decide)
theorem zt_90_6 : zt 90 6 = 96 := rfl
theorem zo_90_6 : zo 90 6 = True := eq_true (by unfold zo; decide)
theorem zt_92_7 : zt 92 7 = 99 := rfl
theorem zo_92_7 : zo 92 7 = True := eq_true (by unfold zo; decide)
theorem zt_92_12 : zt 92 12 = 104 := rfl
theorem zo_92_12 : zo 92 12 = True := eq_true (by unfold zo; decide)
theorem zt_93_6 : zt 93 6 = 99 := rfl
theorem zo_93_6 : zo 93 6 = True := eq_true (by unfold zo; decide)
theorem zt_93_19 : zt 93 19 = 112 := rfl
theorem zo_93_19 : zo 93 19 = True := eq_true (by unfold zo; decide)
theorem zt_93_42 : zt 93 42 = 135 := rfl
theorem zo_93_42 : zo 93 42 = True := eq_true (by unfold zo; decide)
theorem zt_94_6 : zt 94 6 = 100 := rfl
theorem zo_94_6 : zo 94 6 = True := eq_true (by unfold zo; decide)
theorem zt_96_4 : zt 96 4 = 100 := rfl
theorem zo_96_4 : zo 96 4 = True := eq_true (by unfold zo; decide)
theorem zt_96_7 : zt 96 7 = 103 := rfl
theorem zo_96_7 : zo 96 7 = True := eq_true (by unfold zo; decide)
theorem zt_96_9 : zt 96 9 = 105 := rfl
theorem zo_96_9 : zo 96 9 = True := eq_true (by unfold zo; decide)
theorem zt_98_17 : zt 98 17 = 115 := rfl
theorem zo_98_17 : zo 98 17 = True := eq_true (by unfold zo; decide)
theorem zt_98_23 : zt 98 23 = 121 := rfl
theorem zo_98_23 : zo 98 23 = True := eq_true (by unfold zo; decide)
theorem zt_100_4 : zt 100 4 = 104 := rfl
theorem zo_100_4 : zo 100 4 = True := eq_true (by unfold zo; decide)
theorem zt_101_6 : zt 101 6 = 107 := rfl
theorem zo_101_6 : zo 101 6 = True := eq_true (by unfold zo; decide)
theorem zt_102_7 : zt 102 7 = 109 := rfl
theorem zo_102_7 : zo 102 7 = True := eq_true (by unfold zo; decide)
theorem zt_103_18 : zt 103 18 = 121 := rfl
theorem zo_103_18 : zo 103 18 = True := eq_true (by unfold zo; decide)
theorem zt_105_23 : zt 105 23 = 128 := rfl
theorem zo_105_23 : zo 105 23 = True := eq_true (by unfold zo; decide)
theorem zt_106_4 : zt 106 4 = 110 := rfl
theorem zo_106_4 : zo 106 4 = True := eq_true (by unfold zo; decide)
theorem zt_108_7 : zt 108 7 = 115 := rfl
theorem zo_108_7 : zo 108 7 = True := eq_true (by unfold zo; decide)
theorem zt_108_12 : zt 108 12 = 120 := rfl
theorem zo_108_12 : zo 108 12 = True := eq_true (by unfold zo; decide)
theorem zt_108_27 : zt 108 27 = 135 := rfl
theorem zo_108_27 : zo 108 27 = True := eq_true (by unfold zo; decide)
theorem zt_109_104 : zt 109 104 = 213 := rfl
theorem zo_109_104 : zo 109 104 = True := eq_true (by unfold zo; decide)
theorem zt_112_4 : zt 112 4 = 116 := rfl
theorem zo_112_4 : zo 112 4 = True := eq_true (by unfold zo; decide)
theorem zt_113_8 : zt 113 8 = 121 := rfl
theorem zo_113_8 : zo 113 8 = True := eq_true (by unfold zo; decide)
theorem zt_113_15 : zt 113 15 = 128 := rfl
theorem zo_113_15 : zo 113 15 = True := eq_true (by unfold zo; decide)
theorem zt_114_7 : zt 114 7 = 121 := rfl
theorem zo_114_7 : zo 114 7 = True := eq_true (by unfold zo; decide)
theorem zt_118_5 : zt 118 5 = 123 := rfl
theorem zo_118_5 : zo 118 5 = True := eq_true (by unfold zo; decide)
theorem zt_118_6 : zt 118 6 = 124 := rfl
theorem zo_118_6 : zo 118 6 = True := eq_true (by unfold zo; decide)
theorem zt_119_50 : zt 119 50 = 169 := rfl
theorem zo_119_50 : zo 119 50 = True := eq_true (by unfold zo; decide)
theorem zt_120_15 : zt 120 15 = 135 := rfl
theorem zo_120_15 : zo 120 15 = True := eq_true (by unfold zo; decide)
theorem zt_120_39 : zt 120 39 = 159 := rfl
theorem zo_120_39 : zo 120 39 = True := eq_true (by unfold zo; decide)
theorem zt_120_455 : zt 120 455 = 575 := rfl
theorem zo_120_455 : zo 120 455 = True := eq_true (by unfold zo; decide)
theorem zt_121_7 : zt 121 7 = 128 := rfl
theorem zo_121_7 : zo 121 7 = True := eq_true (by unfold zo; decide)
theorem zt_121_92 : zt 121 92 = 213 := rfl
theorem zo_121_92 : zo 121 92 = True := eq_true (by unfold zo; decide)
theorem zt_125_4 : zt 125 4 = 129 := rfl
theorem zo_125_4 : zo 125 4 = True := eq_true (by unfold zo; decide)
theorem zt_127_6 : zt 127 6 = 133 := rfl
theorem zo_127_6 : zo 127 6 = True := eq_true (by unfold zo; decide)
theorem zt_127_32 : zt 127 32 = 159 := rfl
theorem zo_127_32 : zo 127 32 = True := eq_true (by unfold zo; decide)
theorem zt_129_19 : zt 129 19 = 148 := rfl
theorem zo_129_19 : zo 129 19 = True := eq_true (by unfold zo; decide)
theorem zt_131_7 : zt 131 7 = 138 := rfl
theorem zo_131_7 : zo 131 7 = True := eq_true (by unfold zo; decide)
theorem zt_132_6 : zt 132 6 = 138 := rfl
theorem zo_132_6 : zo 132 6 = True := eq_true (by unfold zo; decide)
theorem zt_133_80 : zt 133 80 = 213 := rfl
theorem zo_133_80 : zo 133 80 = True := eq_true (by unfold zo; decide)
theorem zt_135_5 : zt 135 5 = 140 := rfl
theorem zo_135_5 : zo 135 5 = True := eq_true (by unfold zo; decide)
theorem zt_135_7 : zt 135 7 = 142 := rfl
theorem zo_135_7 : zo 135 7 = True := eq_true (by unfold zo; decide)
theorem zt_139_4 : zt 139 4 = 143 := rfl
theorem zo_139_4 : zo 139 4 = True := eq_true (by unfold zo; decide)
theorem zt_139_20 : zt 139 20 = 159 := rfl
theorem zo_139_20 : zo 139 20 = True := eq_true (by unfold zo; decide)
theorem zt_142_6 : zt 142 6 = 148 := rfl
theorem zo_142_6 : zo 142 6 = True := eq_true (by unfold zo; decide)
theorem zt_144_7 : zt 144 7 = 151 := rfl
theorem zo_144_7 : zo 144 7 = True := eq_true (by unfold zo; decide)
theorem zt_144_69 : zt 144 69 = 213 := rfl
theorem zo_144_69 : zo 144 69 = True := eq_true (by unfold zo; decide)
theorem zt_148_5 : zt 148 5 = 153 := rfl
theorem zo_148_5 : zo 148 5 = True := eq_true (by unfold zo; decide)
theorem zt_149_30 : zt 149 30 = 179 := rfl
theorem zo_149_30 : zo 149 30 = True := eq_true (by unfold zo; decide)
theorem zt_152_7 : zt 152 7 = 159 := rfl
theorem zo_152_7 : zo 152 7 = True := eq_true (by unfold zo; decide)
theorem zt_156_4 : zt 156 4 = 160 := rfl
theorem zo_156_4 : zo 156 4 = True := eq_true (by unfold zo; decide)
theorem zt_159_24 : zt 159 24 = 183 := rfl
theorem zo_159_24 : zo 159 24 = True := eq_true (by unfold zo; decide)
theorem zt_163_412 : zt 163 412 = 575 := rfl
theorem zo_163_412 : zo 163 412 = True := eq_true (by unfold zo; decide)
theorem zt_164_7 : zt 164 7 = 171 := rfl
theorem zo_164_7 : zo 164 7 = True := eq_true (by unfold zo; decide)
theorem zt_165_6 : zt 165 6 = 171 := rfl
theorem zo_165_6 : zo 165 6 = True := eq_true (by unfold zo; decide)
theorem zt_168_4 : zt 168 4 = 172 := rfl
theorem zo_168_4 : zo 168 4 = True := eq_true (by unfold zo; decide)
theorem zt_172_m143 : zt 172 (-143) = 29 := rfl
theorem zo_172_m143 : zo 172 (-143) = True := eq_true (by unfold zo; decide)
theorem zt_174_6 : zt 174 6 = 180 := rfl
theorem zo_174_6 : zo 174 6 = True := eq_true (by unfold zo; decide)
theorem zt_176_7 : zt 176 7 = 183 := rfl
theorem zo_176_7 : zo 176 7 = True := eq_true (by unfold zo; decide)
theorem zt_180_4 : zt 180 4 = 184 := rfl
theorem zo_180_4 : zo 180 4 = True := eq_true (by unfold zo; decide)
theorem zt_180_33 : zt 180 33 = 213 := rfl
theorem zo_180_33 : zo 180 33 = True := eq_true (by unfold zo; decide)
theorem zt_186_17 : zt 186 17 = 203 := rfl
theorem zo_186_17 : zo 186 17 = True := eq_true (by unfold zo; decide)
theorem zt_188_8 : zt 188 8 = 196 := rfl
theorem zo_188_8 : zo 188 8 = True := eq_true (by unfold zo; decide)
theorem zt_193_5 : zt 193 5 = 198 := rfl
theorem zo_193_5 : zo 193 5 = True := eq_true (by unfold zo; decide)
theorem zt_197_6 : zt 197 6 = 203 := rfl
theorem zo_197_6 : zo 197 6 = True := eq_true (by unfold zo; decide)
theorem zt_197_16 : zt 197 16 = 213 := rfl
theorem zo_197_16 : zo 197 16 = True := eq_true (by unfold zo; decide)
theorem zt_199_m154 : zt 199 (-154) = 45 := rfl
theorem zo_199_m154 : zo 199 (-154) = True := eq_true (by unfold zo; decide)
theorem zt_201_7 : zt 201 7 = 208 := rfl
theorem zo_201_7 : zo 201 7 = True := eq_true (by unfold zo; decide)
theorem zt_205_6 : zt 205 6 = 211 := rfl
theorem zo_205_6 : zo 205 6 = True := eq_true (by unfold zo; decide)
theorem zt_209_14 : zt 209 14 = 223 := rfl
theorem zo_209_14 : zo 209 14 = True := eq_true (by unfold zo; decide)
theorem zt_211_23 : zt 211 23 = 234 := rfl
theorem zo_211_23 : zo 211 23 = True := eq_true (by unfold zo; decide)
theorem zt_216_11 : zt 216 11 = 227 := rfl
theorem zo_216_11 : zo 216 11 = True := eq_true (by unfold zo; decide)
theorem zt_219_6 : zt 219 6 = 225 := rfl
theorem zo_219_6 : zo 219 6 = True := eq_true (by unfold zo; decide)
theorem zt_227_7 : zt 227 7 = 234 := rfl
theorem zo_227_7 : zo 227 7 = True := eq_true (by unfold zo; decide)
theorem zt_231_5 : zt 231 5 = 236 := rfl
theorem zo_231_5 : zo 231 5 = True := eq_true (by unfold zo; decide)
theorem zt_254_69 : zt 254 69 = 323 := rfl
theorem zo_254_69 : zo 254 69 = True := eq_true (by unfold zo; decide)
theorem zt_270_305 : zt 270 305 = 575 := rfl
theorem zo_270_305 : zo 270 305 = True := eq_true (by unfold zo; decide)
theorem zt_293_282 : zt 293 282 = 575 := rfl
theorem zo_293_282 : zo 293 282 = True := eq_true (by unfold zo; decide)
theorem zt_326_249 : zt 326 249 = 575 := rfl
theorem zo_326_249 : zo 326 249 = True := eq_true (by unfold zo; decide)
theorem zt_342_7 : zt 342 7 = 349 := rfl
theorem zo_342_7 : zo 342 7 = True := eq_true (by unfold zo; decide)
theorem zt_346_4 : zt 346 4 = 350 := rfl
theorem zo_346_4 : zo 346 4 = True := eq_true (by unfold zo; decide)
theorem zt_364_7 : zt 364 7 = 371 := rfl
theorem zo_364_7 : zo 364 7 = True := eq_true (by unfold zo; decide)
theorem zt_368_4 : zt 368 4 = 372 := rfl
theorem zo_368_4 : zo 368 4 = True := eq_true (by unfold zo; decide)
theorem zt_375_200 : zt 375 200 = 575 := rfl
theorem zo_375_200 : zo 375 200 = True := eq_true (by unfold zo; decide)
theorem zt_398_177 : zt 398 177 = 575 := rfl
theorem zo_398_177 : zo 398 177 = True := eq_true (by unfold zo; decide)
theorem zt_451_124 : zt 451 124 = 575 := rfl
theorem zo_451_124 : zo 451 124 = True := eq_true (by unfold zo; decide)
theorem zt_484_91 : zt 484 91 = 575 := rfl
theorem zo_484_91 : zo 484 91 = True := eq_true (by unfold zo; decide)
theorem zt_547_28 : zt 547 28 = 575 := rfl
theorem zo_547_28 : zo 547 28 = True := eq_true (by unfold zo; decide)
theorem zt_570_5 : zt 570 5 = 575 := rfl
theorem zo_570_5 : zo 570 5 = True := eq_true (by unfold zo; decide)
theorem zt_578_m560 : zt 578 (-560) = 18 := rfl
theorem zo_578_m560 : zo 578 (-560) = True := eq_true (by unfold zo; decide)
theorem cb_m23 : (Int8.ofInt (-23)).toInt32 = (-23) := by decide +kernel
theorem cb_m22 : (Int8.ofInt (-22)).toInt32 = (-22) := by decide +kernel
theorem cb_m21 : (Int8.ofInt (-21)).toInt32 = (-21) := by decide +kernel
theorem cb_m14 : (Int8.ofInt (-14)).toInt32 = (-14) := by decide +kernel
theorem cb_m13 : (Int8.ofInt (-13)).toInt32 = (-13) := by decide +kernel
theorem cb_m12 : (Int8.ofInt (-12)).toInt32 = (-12) := by decide +kernel
theorem cb_m11 : (Int8.ofInt (-11)).toInt32 = (-11) := by decide +kernel
theorem cb_6 : (Int8.ofInt 6).toInt32 = 6 := by decide +kernel
theorem cb_7 : (Int8.ofInt 7).toInt32 = 7 := by decide +kernel
theorem cb_8 : (Int8.ofInt 8).toInt32 = 8 := by decide +kernel
theorem cb_9 : (Int8.ofInt 9).toInt32 = 9 := by decide +kernel
theorem cb_10 : (Int8.ofInt 10).toInt32 = 10 := by decide +kernel
theorem cb_15 : (Int8.ofInt 15).toInt32 = 15 := by decide +kernel
theorem cb_30 : (Int8.ofInt 30).toInt32 = 30 := by decide +kernel
theorem cb_32 : (Int8.ofInt 32).toInt32 = 32 := by decide +kernel
theorem cb_60 : (Int8.ofInt 60).toInt32 = 60 := by decide +kernel
theorem cb_61 : (Int8.ofInt 61).toInt32 = 61 := by decide +kernel
theorem cb_100 : (Int8.ofInt 100).toInt32 = 100 := by decide +kernel
theorem cb_101 : (Int8.ofInt 101).toInt32 = 101 := by decide +kernel
theorem cs_240 : (Int16.ofInt 240).toInt32 = 240 := by decide +kernel
theorem cs_250 : (Int16.ofInt 250).toInt32 = 250 := by decide +kernel
theorem cs_399 : (Int16.ofInt 399).toInt32 = 399 := by decide +kernel
theorem cs_488 : (Int16.ofInt 488).toInt32 = 488 := by decide +kernel
theorem cs_512 : (Int16.ofInt 512).toInt32 = 512 := by decide +kernel
theorem cs_549 : (Int16.ofInt 549).toInt32 = 549 := by decide +kernel
theorem cs_4200 : (Int16.ofInt 4200).toInt32 = 4200 := by decide +kernel
theorem ci_m1 : Int32.ofInt (-1) = (-1) := by decide +kernel
theorem ci_0 : Int32.ofInt 0 = 0 := by decide +kernel
theorem ci_1 : Int32.ofInt 1 = 1 := by decide +kernel
theorem ci_2 : Int32.ofInt 2 = 2 := by decide +kernel
theorem ci_3 : Int32.ofInt 3 = 3 := by decide +kernel
theorem ci_4 : Int32.ofInt 4 = 4 := by decide +kernel
theorem ci_5 : Int32.ofInt 5 = 5 := by decide +kernel
theorem cl_0 : Int64.ofNat ((0 : Fin 2) : Nat) = 0 := by decide +kernel
theorem cl_1 : Int64.ofNat ((1 : Fin 2) : Nat) = 1 := by decide +kernel
theorem za_0 {i : Nat} : lv_args i [] = [] := rfl
theorem za_i {i : Nat} {x : Int32} {vs : List Value} : lv_args i (.int x :: vs) = (i, .int x) :: lv_args (i + 1) vs := rfl
theorem za_r {i x : Nat} {vs : List Value} : lv_args i (.ref x :: vs) = (i, .ref x) :: lv_args (i + 1) vs := rfl
theorem za_n {i : Nat} {vs : List Value} : lv_args i (.null :: vs) = (i, .null) :: lv_args (i + 1) vs := rfl
theorem za_l {i : Nat} {x : Int64} {vs : List Value} : lv_args i (.long x :: vs) = (i, .long x) :: lv_args (i + 2) vs := rfl
theorem zk_0 {dA : Nat → ClassId} : (∃ (t : Nat) (ty : FieldType), (kt dA)[t]? = some (dA 0, ty)) = True := eq_true ⟨0, _, rfl⟩
theorem zk_1 {dA : Nat → ClassId} : (∃ (t : Nat) (ty : FieldType), (kt dA)[t]? = some (dA 1, ty)) = True := eq_true ⟨1, _, rfl⟩
theorem zk_2 {dA : Nat → ClassId} : (∃ (t : Nat) (ty : FieldType), (kt dA)[t]? = some (dA 2, ty)) = True := eq_true ⟨2, _, rfl⟩
theorem zk_3 {dA : Nat → ClassId} : (∃ (t : Nat) (ty : FieldType), (kt dA)[t]? = some (dA 3, ty)) = True := eq_true ⟨3, _, rfl⟩
theorem zk_4 {dA : Nat → ClassId} : (∃ (t : Nat) (ty : FieldType), (kt dA)[t]? = some (dA 4, ty)) = True := eq_true ⟨4, _, rfl⟩
theorem zq_1 {dA : Nat → ClassId} : (∃ (t : Nat) (C : String), (kt dA)[t]? = some (dA 1, .object C)) = True := eq_true ⟨1, _, rfl⟩
theorem zq_2 {dA : Nat → ClassId} : (∃ (t : Nat) (C : String), (kt dA)[t]? = some (dA 2, .object C)) = True := eq_true ⟨2, _, rfl⟩
