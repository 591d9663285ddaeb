/-! a valley becomes another; pages -/
def cpS (M : sw_Mem) (a b sp dp n : Nat) : sw_Mem := sw_set M b (va_cpy (M a) (M b) sp dp n)
theorem cpS_n (M : sw_Mem) {a b sp dp n k : Nat} (h : k ≠ b) : cpS M a b sp dp n k = M k := z_set_n _ _ h
theorem cpS_i (M : sw_Mem) {a b sp dp n j : Nat} (h1 : dp ≤ j) (h2 : j < dp + n) : cpS M a b sp dp n b j = M a (sp + (j - dp)) := by
  unfold cpS
  rw [z_set_s, z_cpy_i h1 h2]
theorem cpS_0 (M : sw_Mem) {a b n j : Nat} (h2 : j < n) : cpS M a b 0 0 n b j = M a j := by
  rw [cpS_i M (by omega) (by omega), Nat.zero_add, Nat.sub_zero]
theorem cpS_o (M : sw_Mem) {a b sp dp n j : Nat} (h : j < dp ∨ dp + n ≤ j) : cpS M a b sp dp n b j = M b j := by
  unfold cpS
  rw [z_set_s, z_cpy_o h]
def mvF (M : sw_Mem) (v u j : Nat) : sw_Mem := sw_up M v j (M u j)
theorem mvF_n (M : sw_Mem) {v u j k : Nat} (h : k ≠ v) : mvF M v u j k = M k := z_up_n _ _ h
theorem mvF_s (M : sw_Mem) (v u j : Nat) : mvF M v u j v j = M u j := z_up_s _ _ _ _
theorem mvF_j (M : sw_Mem) {v u j i : Nat} (h : i ≠ j) : mvF M v u j v i = M v i := z_up_j _ _ h
section ACT
variable {d v u : Nat} {M : sw_Mem} {T : Tw} {Q : Option Value → sw_Mem → Prop}
theorem IsV_mv {M' : sw_Mem} (hV : IsV M u T) (hv : sw_kd v = 6) (w0 : T 0 ≤ 4) (w1 : T 1 ≤ 4) (e0 : ∀ j, j < 5 → M' v j = M u j) (e1 : ∀ j, j < 8 → M' (v + 1) j = M (u + 1) j) (e2 : ∀ j, j < 8 → M' (v + 2) j = M (u + 2) j) (e3 : ∀ j, j < 8 → M' (v + 3) j = M (u + 3) j) (e4 : ∀ j, j < 4 → M' (v + 4) j = M (u + 4) j) (e5 : ∀ j, j < 4 → M' (v + 5) j = M (u + 5) j) (e6 : ∀ j, j < 4 → M' (v + 6) j = M (u + 6) j) : IsV M' v T := by
  obtain ⟨-, h0, hR, hB⟩ := hV
  refine ⟨hv, ?_, fun r hr => ?_, fun b hb => ?_⟩
  · rw [e0 0 (by omega), e0 1 (by omega), e0 2 (by omega), e0 3 (by omega), e0 4 (by omega)]
    exact h0
  · rw [e1 r (by omega), e2 r (by omega), e3 r (by omega), e4 r (by omega), e5 r (by omega)]
    exact hR r hr
  · rw [e1 (4 + b) (by omega), e2 (4 + b) (by omega), e3 (4 + b) (by omega), e6 b (by omega)]
    exact hB b hb
theorem k59a (hv : sw_kd v = 6) (hu : sw_kd u = 6) : sw_WP d 59 0 [.ref v, .ref u] [] M Q = sw_WP d 59 40 [.ref v, .ref u] [] (mvF (mvF (mvF (mvF (mvF M v u 0) v u 1) v u 2) v u 3) v u 4) Q := by
  have a0 : ∀ M, sw_WP d 59 0 [.ref v, .ref u] [] M Q = sw_WP d 59 8 [.ref v, .ref u] [] (mvF M v u 0) Q := fun M => by
    simp (disch := omega) only [s59_0, s59_1, s59_2, s59_5, hv, hu]
    rfl
  have a1 : ∀ M, sw_WP d 59 8 [.ref v, .ref u] [] M Q = sw_WP d 59 16 [.ref v, .ref u] [] (mvF M v u 1) Q := fun M => by
    simp (disch := omega) only [s59_8, s59_9, s59_10, s59_13, hv, hu]
    rfl
  have a2 : ∀ M, sw_WP d 59 16 [.ref v, .ref u] [] M Q = sw_WP d 59 24 [.ref v, .ref u] [] (mvF M v u 2) Q := fun M => by
    simp (disch := omega) only [s59_16, s59_17, s59_18, s59_21, hv, hu]
    rfl
  have a3 : ∀ M, sw_WP d 59 24 [.ref v, .ref u] [] M Q = sw_WP d 59 32 [.ref v, .ref u] [] (mvF M v u 3) Q := fun M => by
    simp (disch := omega) only [s59_24, s59_25, s59_26, s59_29, hv, hu]
    rfl
  have a4 : ∀ M, sw_WP d 59 32 [.ref v, .ref u] [] M Q = sw_WP d 59 40 [.ref v, .ref u] [] (mvF M v u 4) Q := fun M => by
    simp (disch := omega) only [s59_32, s59_33, s59_34, s59_37, hv, hu]
    rfl
  rw [a0, a1, a2, a3, a4]
def bcM (M : sw_Mem) (v u : Nat) : sw_Mem := cpS (cpS (cpS (cpS (cpS (cpS (mvF (mvF (mvF (mvF (mvF M v u 0) v u 1) v u 2) v u 3) v u 4) (u + 1) (v + 1) 0 0 8) (u + 2) (v + 2) 0 0 8) (u + 3) (v + 3) 0 0 8) (u + 4) (v + 4) 0 0 4) (u + 5) (v + 5) 0 0 4) (u + 6) (v + 6) 0 0 4
theorem k59 (hv : sw_kd v = 6) (hu : sw_kd u = 6) : sw_Cal (d + 1) 59 [.ref v, .ref u] M Q = Q none (bcM M v u) := by
  have a1 : ∀ M, sw_WP d 59 40 [.ref v, .ref u] [] M Q = sw_WP d 59 55 [.ref v, .ref u] [] (cpS M (u + 1) (v + 1) 0 0 8) Q := fun M => by
    simp (disch := omega) only [s59_40, s59_41, s59_44, s59_45, s59_46, s59_49, s59_50, s59_52, z_lt_t, z_lt_f, z_le_t, z_le_f, z_lt0, z_ge0, z_cl, z_in, z_add, z_eq_f, z_ne0, z_00, z_10, z_01, z_11, z_neg1, z_nI_NONE, z_div, z_rem, z_rem2, sw_pu_s, sw_pu_n, true_and, and_true, true_or, or_true, if_true, if_false, not_true_eq_false, not_false_eq_true, hv, hu, sw_vk1 hv, sw_vk1 hu, sw_vn1 hv, sw_vn1 hu, Nat.le_refl, Nat.zero_add, and_self]
    rfl
  have a2 : ∀ M, sw_WP d 59 55 [.ref v, .ref u] [] M Q = sw_WP d 59 70 [.ref v, .ref u] [] (cpS M (u + 2) (v + 2) 0 0 8) Q := fun M => by
    simp (disch := omega) only [s59_55, s59_56, s59_59, s59_60, s59_61, s59_64, s59_65, s59_67, z_lt_t, z_lt_f, z_le_t, z_le_f, z_lt0, z_ge0, z_cl, z_in, z_add, z_eq_f, z_ne0, z_00, z_10, z_01, z_11, z_neg1, z_nI_NONE, z_div, z_rem, z_rem2, sw_pu_s, sw_pu_n, true_and, and_true, true_or, or_true, if_true, if_false, not_true_eq_false, not_false_eq_true, hv, hu, sw_vk2 hv, sw_vk2 hu, sw_vn2 hv, sw_vn2 hu, Nat.le_refl, Nat.zero_add, and_self]
    rfl
  have a3 : ∀ M, sw_WP d 59 70 [.ref v, .ref u] [] M Q = sw_WP d 59 85 [.ref v, .ref u] [] (cpS M (u + 3) (v + 3) 0 0 8) Q := fun M => by
    simp (disch := omega) only [s59_70, s59_71, s59_74, s59_75, s59_76, s59_79, s59_80, s59_82, z_lt_t, z_lt_f, z_le_t, z_le_f, z_lt0, z_ge0, z_cl, z_in, z_add, z_eq_f, z_ne0, z_00, z_10, z_01, z_11, z_neg1, z_nI_NONE, z_div, z_rem, z_rem2, sw_pu_s, sw_pu_n, true_and, and_true, true_or, or_true, if_true, if_false, not_true_eq_false, not_false_eq_true, hv, hu, sw_vk3 hv, sw_vk3 hu, sw_vn3 hv, sw_vn3 hu, Nat.le_refl, Nat.zero_add, and_self]
    rfl
  have a4 : ∀ M, sw_WP d 59 85 [.ref v, .ref u] [] M Q = sw_WP d 59 99 [.ref v, .ref u] [] (cpS M (u + 4) (v + 4) 0 0 4) Q := fun M => by
    simp (disch := omega) only [s59_85, s59_86, s59_89, s59_90, s59_91, s59_94, s59_95, s59_96, z_lt_t, z_lt_f, z_le_t, z_le_f, z_lt0, z_ge0, z_cl, z_in, z_add, z_eq_f, z_ne0, z_00, z_10, z_01, z_11, z_neg1, z_nI_NONE, z_div, z_rem, z_rem2, sw_pu_s, sw_pu_n, true_and, and_true, true_or, or_true, if_true, if_false, not_true_eq_false, not_false_eq_true, hv, hu, sw_vk4 hv, sw_vk4 hu, sw_vn4 hv, sw_vn4 hu, Nat.le_refl, Nat.zero_add, and_self]
    rfl
  have a5 : ∀ M, sw_WP d 59 99 [.ref v, .ref u] [] M Q = sw_WP d 59 113 [.ref v, .ref u] [] (cpS M (u + 5) (v + 5) 0 0 4) Q := fun M => by
    simp (disch := omega) only [s59_99, s59_100, s59_103, s59_104, s59_105, s59_108, s59_109, s59_110, z_lt_t, z_lt_f, z_le_t, z_le_f, z_lt0, z_ge0, z_cl, z_in, z_add, z_eq_f, z_ne0, z_00, z_10, z_01, z_11, z_neg1, z_nI_NONE, z_div, z_rem, z_rem2, sw_pu_s, sw_pu_n, true_and, and_true, true_or, or_true, if_true, if_false, not_true_eq_false, not_false_eq_true, hv, hu, sw_vk5 hv, sw_vk5 hu, sw_vn5 hv, sw_vn5 hu, Nat.le_refl, Nat.zero_add, and_self]
    rfl
  have a6 : ∀ M, sw_WP d 59 113 [.ref v, .ref u] [] M Q = Q none (cpS M (u + 6) (v + 6) 0 0 4) := fun M => by
    simp (disch := omega) only [s59_113, s59_114, s59_117, s59_118, s59_119, s59_122, s59_123, s59_124, s59_127, z_lt_t, z_lt_f, z_le_t, z_le_f, z_lt0, z_ge0, z_cl, z_in, z_add, z_eq_f, z_ne0, z_00, z_10, z_01, z_11, z_neg1, z_nI_NONE, z_div, z_rem, z_rem2, sw_pu_s, sw_pu_n, true_and, and_true, true_or, or_true, if_true, if_false, not_true_eq_false, not_false_eq_true, hv, hu, sw_vk6 hv, sw_vk6 hu, sw_vn6 hv, sw_vn6 hu, Nat.le_refl, Nat.zero_add, and_self]
    rfl
  rw [c59, k59a hv hu, a1, a2, a3, a4, a5, a6]
  rfl
theorem bcM_off (M : sw_Mem) (v u : Nat) : Off M (bcM M v u) v := by
  intro k hk
  unfold bcM
  simp (disch := omega) only [cpS_n, mvF_n]
theorem bcM_V (hV : IsV M u T) (hv : sw_kd v = 6) (w0 : T 0 ≤ 4) (w1 : T 1 ≤ 4) (h : u + 7 ≤ v ∨ v + 7 ≤ u) : IsV (bcM M v u) v T := by
  refine IsV_mv hV hv w0 w1 (fun j hj => ?_) (fun j hj => ?_) (fun j hj => ?_) (fun j hj => ?_) (fun j hj => ?_) (fun j hj => ?_) (fun j hj => ?_) <;> unfold bcM
  · simp (disch := omega) only [cpS_n]
    rcases (show j = 0 ∨ j = 1 ∨ j = 2 ∨ j = 3 ∨ j = 4 by omega) with rfl | rfl | rfl | rfl | rfl <;> simp (disch := omega) only [mvF_s, mvF_j, mvF_n]
  all_goals simp (disch := omega) only [cpS_n, cpS_0, mvF_n]
/-- a page is written, read -/
def wrM (M : sw_Mem) (v a : Nat) : sw_Mem := sw_up (cpS (cpS (cpS M (v + 2) a 0 0 8) (v + 5) a 0 8 4) (v + 6) a 0 12 4) a 16 (M v 2)
theorem k60 (hv : sw_kd v = 6) {a : Nat} (ha : sw_kd a = 10) (hl : sw_ln a = 17) (hd : a < v ∨ v + 7 ≤ a) : sw_Cal (d + 1) 60 [.ref v, .ref a] M Q = Q none (wrM M v a) := by
  have a1 : ∀ M, sw_WP d 60 0 [.ref v, .ref a] [] M Q = sw_WP d 60 12 [.ref v, .ref a] [] (cpS M (v + 2) a 0 0 8) Q := fun M => by
    simp (disch := omega) only [s60_0, s60_1, s60_4, s60_5, s60_6, s60_7, s60_9, z_lt_t, z_lt_f, z_le_t, z_le_f, z_lt0, z_ge0, z_cl, z_in, z_add, z_eq_f, z_ne0, z_00, z_10, z_01, z_11, z_neg1, z_nI_NONE, z_div, z_rem, z_rem2, sw_pu_s, sw_pu_n, true_and, and_true, true_or, or_true, if_true, if_false, not_true_eq_false, not_false_eq_true, hv, ha, hl, sw_vk2 hv, sw_vn2 hv, Nat.zero_add, and_self]
    simp (disch := omega) only [z_lt_t, z_lt_f, z_le_t, z_le_f, z_lt0, z_ge0, z_cl, z_in, z_add, z_eq_f, z_ne0, z_00, z_10, z_01, z_11, z_neg1, z_nI_NONE, z_div, z_rem, z_rem2, sw_pu_s, sw_pu_n, true_and, and_true, true_or, or_true, if_true, if_false, not_true_eq_false, not_false_eq_true, Nat.le_refl, show 8 ≤ 17 by omega]
    rfl
  have a2 : ∀ M, sw_WP d 60 12 [.ref v, .ref a] [] M Q = sw_WP d 60 24 [.ref v, .ref a] [] (cpS M (v + 5) a 0 8 4) Q := fun M => by
    simp (disch := omega) only [s60_12, s60_13, s60_16, s60_17, s60_18, s60_20, s60_21, z_lt_t, z_lt_f, z_le_t, z_le_f, z_lt0, z_ge0, z_cl, z_in, z_add, z_eq_f, z_ne0, z_00, z_10, z_01, z_11, z_neg1, z_nI_NONE, z_div, z_rem, z_rem2, sw_pu_s, sw_pu_n, true_and, and_true, true_or, or_true, if_true, if_false, not_true_eq_false, not_false_eq_true, hv, ha, hl, sw_vk5 hv, sw_vn5 hv, Nat.zero_add, and_self]
    simp (disch := omega) only [z_lt_t, z_lt_f, z_le_t, z_le_f, z_lt0, z_ge0, z_cl, z_in, z_add, z_eq_f, z_ne0, z_00, z_10, z_01, z_11, z_neg1, z_nI_NONE, z_div, z_rem, z_rem2, sw_pu_s, sw_pu_n, true_and, and_true, true_or, or_true, if_true, if_false, not_true_eq_false, not_false_eq_true, Nat.le_refl, show 8 + 4 ≤ 17 by omega]
    rfl
  have a3 : ∀ M, sw_WP d 60 24 [.ref v, .ref a] [] M Q = sw_WP d 60 36 [.ref v, .ref a] [] (cpS M (v + 6) a 0 12 4) Q := fun M => by
    simp (disch := omega) only [s60_24, s60_25, s60_28, s60_29, s60_30, s60_32, s60_33, z_lt_t, z_lt_f, z_le_t, z_le_f, z_lt0, z_ge0, z_cl, z_in, z_add, z_eq_f, z_ne0, z_00, z_10, z_01, z_11, z_neg1, z_nI_NONE, z_div, z_rem, z_rem2, sw_pu_s, sw_pu_n, true_and, and_true, true_or, or_true, if_true, if_false, not_true_eq_false, not_false_eq_true, hv, ha, hl, sw_vk6 hv, sw_vn6 hv, Nat.zero_add, and_self]
    simp (disch := omega) only [z_lt_t, z_lt_f, z_le_t, z_le_f, z_lt0, z_ge0, z_cl, z_in, z_add, z_eq_f, z_ne0, z_00, z_10, z_01, z_11, z_neg1, z_nI_NONE, z_div, z_rem, z_rem2, sw_pu_s, sw_pu_n, true_and, and_true, true_or, or_true, if_true, if_false, not_true_eq_false, not_false_eq_true, Nat.le_refl, show 12 + 4 ≤ 17 by omega]
    rfl
  have a4 : ∀ M, sw_WP d 60 36 [.ref v, .ref a] [] M Q = Q none (sw_up M a 16 (M v 2)) := fun M => by
    simp (disch := omega) only [s60_36, s60_37, s60_39, s60_40, s60_43, s60_44, z_lt_t, z_lt_f, z_le_t, z_le_f, z_lt0, z_ge0, z_cl, z_in, z_add, z_eq_f, z_ne0, z_00, z_10, z_01, z_11, z_neg1, z_nI_NONE, z_div, z_rem, z_rem2, sw_pu_s, sw_pu_n, true_and, and_true, true_or, or_true, if_true, if_false, not_true_eq_false, not_false_eq_true, hv, ha, hl]
  rw [c60, a1, a2, a3, a4]
  unfold wrM
  simp (disch := omega) only [cpS_n]
theorem wrM_n {a k : Nat} (h : k ≠ a) : wrM M v a k = M k := by
  unfold wrM
  simp (disch := omega) only [cpS_n, z_up_n]
theorem wrM_pg (hV : IsV M v T) {a : Nat} (w0 : T 0 ≤ 4) (w1 : T 1 ≤ 4) (hd : a < v ∨ v + 7 ≤ a) : IsPg (wrM M v a) a T := by
  obtain ⟨-, ⟨-, -, h2, -⟩, hR, hB⟩ := hV
  refine ⟨fun r hr => ?_, fun b hb => ?_, ?_⟩
  · obtain ⟨r1, r2, r3, r4, r5⟩ := hR r hr
    unfold wrM
    simp (disch := omega) only [z_up_j, cpS_o, cpS_i, cpS_n, Nat.add_sub_cancel_left, Nat.zero_add, Nat.sub_zero, r2, r5, and_self]
  · obtain ⟨b1, b2, b3, b6⟩ := hB b hb
    unfold wrM
    simp (disch := omega) only [z_up_j, cpS_o, cpS_i, cpS_n, Nat.add_sub_cancel_left, Nat.zero_add, Nat.sub_zero, b2, b6, and_self]
  · unfold wrM
    rw [z_up_s, h2]
def rdM (M : sw_Mem) (v a : Nat) : sw_Mem := sw_up (cpS (cpS (cpS M a (v + 2) 0 0 8) a (v + 5) 8 0 4) a (v + 6) 12 0 4) v 2 (M a 16)
theorem k61 (hv : sw_kd v = 6) {a : Nat} (ha : sw_kd a = 10) (hl : sw_ln a = 17) (hd : a < v ∨ v + 7 ≤ a) : sw_Cal (d + 1) 61 [.ref v, .ref a] M Q = Q none (rdM M v a) := by
  have a1 : ∀ M, sw_WP d 61 0 [.ref v, .ref a] [] M Q = sw_WP d 61 12 [.ref v, .ref a] [] (cpS M a (v + 2) 0 0 8) Q := fun M => by
    simp (disch := omega) only [s61_0, s61_1, s61_2, s61_3, s61_6, s61_7, s61_9, z_lt_t, z_lt_f, z_le_t, z_le_f, z_lt0, z_ge0, z_cl, z_in, z_add, z_eq_f, z_ne0, z_00, z_10, z_01, z_11, z_neg1, z_nI_NONE, z_div, z_rem, z_rem2, sw_pu_s, sw_pu_n, true_and, and_true, true_or, or_true, if_true, if_false, not_true_eq_false, not_false_eq_true, hv, ha, hl, sw_vk2 hv, sw_vn2 hv, Nat.zero_add, and_self]
    simp (disch := omega) only [z_lt_t, z_lt_f, z_le_t, z_le_f, z_lt0, z_ge0, z_cl, z_in, z_add, z_eq_f, z_ne0, z_00, z_10, z_01, z_11, z_neg1, z_nI_NONE, z_div, z_rem, z_rem2, sw_pu_s, sw_pu_n, true_and, and_true, true_or, or_true, if_true, if_false, not_true_eq_false, not_false_eq_true, Nat.le_refl, show 8 ≤ 17 by omega]
    rfl
  have a2 : ∀ M, sw_WP d 61 12 [.ref v, .ref a] [] M Q = sw_WP d 61 24 [.ref v, .ref a] [] (cpS M a (v + 5) 8 0 4) Q := fun M => by
    simp (disch := omega) only [s61_12, s61_13, s61_15, s61_16, s61_19, s61_20, s61_21, z_lt_t, z_lt_f, z_le_t, z_le_f, z_lt0, z_ge0, z_cl, z_in, z_add, z_eq_f, z_ne0, z_00, z_10, z_01, z_11, z_neg1, z_nI_NONE, z_div, z_rem, z_rem2, sw_pu_s, sw_pu_n, true_and, and_true, true_or, or_true, if_true, if_false, not_true_eq_false, not_false_eq_true, hv, ha, hl, sw_vk5 hv, sw_vn5 hv, Nat.zero_add, and_self]
    simp (disch := omega) only [z_lt_t, z_lt_f, z_le_t, z_le_f, z_lt0, z_ge0, z_cl, z_in, z_add, z_eq_f, z_ne0, z_00, z_10, z_01, z_11, z_neg1, z_nI_NONE, z_div, z_rem, z_rem2, sw_pu_s, sw_pu_n, true_and, and_true, true_or, or_true, if_true, if_false, not_true_eq_false, not_false_eq_true, Nat.le_refl, show 8 + 4 ≤ 17 by omega]
    rfl
  have a3 : ∀ M, sw_WP d 61 24 [.ref v, .ref a] [] M Q = sw_WP d 61 36 [.ref v, .ref a] [] (cpS M a (v + 6) 12 0 4) Q := fun M => by
    simp (disch := omega) only [s61_24, s61_25, s61_27, s61_28, s61_31, s61_32, s61_33, z_lt_t, z_lt_f, z_le_t, z_le_f, z_lt0, z_ge0, z_cl, z_in, z_add, z_eq_f, z_ne0, z_00, z_10, z_01, z_11, z_neg1, z_nI_NONE, z_div, z_rem, z_rem2, sw_pu_s, sw_pu_n, true_and, and_true, true_or, or_true, if_true, if_false, not_true_eq_false, not_false_eq_true, hv, ha, hl, sw_vk6 hv, sw_vn6 hv, Nat.zero_add, and_self]
    simp (disch := omega) only [z_lt_t, z_lt_f, z_le_t, z_le_f, z_lt0, z_ge0, z_cl, z_in, z_add, z_eq_f, z_ne0, z_00, z_10, z_01, z_11, z_neg1, z_nI_NONE, z_div, z_rem, z_rem2, sw_pu_s, sw_pu_n, true_and, and_true, true_or, or_true, if_true, if_false, not_true_eq_false, not_false_eq_true, Nat.le_refl, show 12 + 4 ≤ 17 by omega]
    rfl
  have a4 : ∀ M, sw_WP d 61 36 [.ref v, .ref a] [] M Q = Q none (sw_up M v 2 (M a 16)) := fun M => by
    simp (disch := omega) only [s61_36, s61_37, s61_38, s61_40, s61_41, s61_44, z_lt_t, z_lt_f, z_le_t, z_le_f, z_lt0, z_ge0, z_cl, z_in, z_add, z_eq_f, z_ne0, z_00, z_10, z_01, z_11, z_neg1, z_nI_NONE, z_div, z_rem, z_rem2, sw_pu_s, sw_pu_n, true_and, and_true, true_or, or_true, if_true, if_false, not_true_eq_false, not_false_eq_true, hv, ha, hl]
  rw [c61, a1, a2, a3, a4]
  unfold rdM
  simp (disch := omega) only [cpS_n]
theorem rdM_off {a : Nat} : Off M (rdM M v a) v := by
  intro k hk
  unfold rdM
  simp (disch := omega) only [cpS_n, z_up_n]
theorem rdM_V (hV : IsV M v T) {a : Nat} {P : Tw} (hP : IsPg M a P) (hS : Sta P T) (w0 : T 0 ≤ 4) (w1 : T 1 ≤ 4) (hd : a < v ∨ v + 7 ≤ a) : IsV (rdM M v a) v P := by
  obtain ⟨hv, ⟨g0, g1, g2, g3, g4⟩, hR, hB⟩ := hV
  obtain ⟨p1, p2, p3⟩ := hP
  obtain ⟨s0, s1, s2, s3, s4, s5⟩ := hS
  refine ⟨hv, ?_, fun r hr => ?_, fun b hb => ?_⟩
  · unfold rdM
    simp (disch := omega) only [z_up_s, z_up_j, cpS_n, g0, g1, g3, g4, p3, s0, s1, s2, s3, and_self]
  · obtain ⟨q1, q2⟩ := p1 r hr
    rw [s1] at hr
    obtain ⟨r1, r2, r3, r4, r5⟩ := hR r hr
    obtain ⟨t1, t2, t3⟩ := s4 r hr
    unfold rdM
    simp (disch := omega) only [z_up_n, cpS_0, cpS_i, cpS_n, Nat.zero_add, Nat.sub_zero, r1, r3, r4, q1, q2, t1, t2, t3, and_self]
  · obtain ⟨q1, q2⟩ := p2 b hb
    rw [s0] at hb
    obtain ⟨b1, b2, b3, b6⟩ := hB b hb
    obtain ⟨t1, t2⟩ := s5 b hb
    unfold rdM
    simp (disch := omega) only [z_up_n, cpS_0, cpS_i, cpS_n, Nat.zero_add, Nat.sub_zero, b1, b3, q1, q2, t1, t2, and_self]
theorem pg_kd {i : Nat} (h : i < 24) : sw_kd (58 + i) = 10 ∧ sw_ln (58 + i) = 17 := by
  have : ∀ i, i < 24 → sw_kd (58 + i) = 10 ∧ sw_ln (58 + i) = 17 := by decide +kernel
  exact this i h
def kpP (π : Ps) (T : Tw) : Ps := if π.2 < 24 then (fun i => if i = π.2 then T else π.1 i, π.2 + 1) else (fun i => if i = 23 then T else π.1 (i + 1), 24)
theorem kd34 : sw_kd 34 = 6 := by decide +kernel
theorem z_min1 {a : Nat} (h : a ≤ 24) : (if nI 24 < nI (a + 1) then nI 24 else nI (a + 1)) = nI (if a < 24 then a + 1 else 24) := by
  by_cases h1 : a < 24
  · simp (disch := omega) only [z_lt_t, z_lt_f, z_le_t, z_le_f, z_lt0, z_ge0, z_cl, z_in, z_add, z_eq_f, z_ne0, z_00, z_10, z_01, z_11, z_neg1, z_nI_NONE, z_div, z_rem, z_rem2, sw_pu_s, sw_pu_n, true_and, and_true, true_or, or_true, if_true, if_false, not_true_eq_false, not_false_eq_true, h1]
  · simp (disch := omega) only [z_lt_t, z_lt_f, z_le_t, z_le_f, z_lt0, z_ge0, z_cl, z_in, z_add, z_eq_f, z_ne0, z_00, z_10, z_01, z_11, z_neg1, z_nI_NONE, z_div, z_rem, z_rem2, sw_pu_s, sw_pu_n, true_and, and_true, true_or, or_true, if_true, if_false, not_true_eq_false, not_false_eq_true, h1]
theorem k0 {π : Ps} (hV : IsV M 34 T) (w0 : T 0 ≤ 4) (w1 : T 1 ≤ 4) (hP : CPs π M) (ho : π.2 ≤ 24) : ∃ M', CPs (kpP π T) M' ∧ (∀ k, k < 56 ∨ 82 ≤ k → M' k = M k) ∧ ∀ Q, sw_Cal (d + 2) 0 [.ref 56, .ref 34] M Q = Q none M' := by
  obtain ⟨h1, nx, hn, h2, h3⟩ := hP
  obtain ⟨hk, hl⟩ := pg_kd hn
  have h60 := fun d Q => k60 (d := d) (M := M) (Q := Q) kd34 hk hl (by omega)
  have hnew := wrM_pg (a := 58 + nx) hV w0 w1 (by omega)
  refine ⟨sw_up (sw_up (wrM M 34 (58 + nx)) 56 1 (nI ((nx + 1) % 24))) 56 2 (nI (if π.2 < 24 then π.2 + 1 else 24)), ⟨?_, (nx + 1) % 24, Nat.mod_lt _ (by omega), ?_, fun i hi => ?_⟩, fun k hk => ?_, fun Q => ?_⟩
  · rw [z_up_s]
    unfold kpP
    split <;> rfl
  · rw [z_up_j _ _ (by omega), z_up_s]
  · have cell : ∀ q P, q < 24 → IsPg (wrM M 34 (58 + nx)) (58 + q) P → IsPg (sw_up (sw_up (wrM M 34 (58 + nx)) 56 1 (nI ((nx + 1) % 24))) 56 2 (nI (if π.2 < 24 then π.2 + 1 else 24))) (58 + q) P := fun q P hq h => IsPg_c h (by rw [z_up_n _ _ (by omega), z_up_n _ _ (by omega)])
    have old : ∀ q P, q ≠ nx → IsPg M (58 + q) P → IsPg (wrM M 34 (58 + nx)) (58 + q) P := fun q P hq h => IsPg_c h (wrM_n (by omega))
    refine cell _ _ (Nat.mod_lt _ (by omega)) ?_
    unfold kpP at hi ⊢
    by_cases c : π.2 < 24
    · simp only [if_pos c] at hi ⊢
      by_cases e : i = π.2
      · subst e
        rw [if_pos rfl, show ((nx + 1) % 24 + 24 - (π.2 + 1) + π.2) % 24 = nx by omega]
        exact hnew
      · rw [if_neg e]
        have := h3 i (by omega)
        rw [show ((nx + 1) % 24 + 24 - (π.2 + 1) + i) % 24 = (nx + 24 - π.2 + i) % 24 by omega]
        exact old _ _ (by omega) this
    · simp only [if_neg c] at hi ⊢
      by_cases e : i = 23
      · subst e
        rw [if_pos rfl, show ((nx + 1) % 24 + 24 - 24 + 23) % 24 = nx by omega]
        exact hnew
      · rw [if_neg e]
        have := h3 (i + 1) (by omega)
        rw [show ((nx + 1) % 24 + 24 - 24 + i) % 24 = (nx + 24 - π.2 + (i + 1)) % 24 by omega]
        exact old _ _ (by omega) this
  · rw [z_up_n _ _ (by omega), z_up_n _ _ (by omega), wrM_n (by omega)]
  · have e1 : wrM M 34 (58 + nx) 56 1 = nI nx := by rw [wrM_n (by omega), h2]
    have e2 : wrM M 34 (58 + nx) 56 2 = nI π.2 := by rw [wrM_n (by omega), h1]
    rw [c0]
    simp (disch := omega) only [s0_0, s0_1, s0_2, s0_5, s0_6, s0_9, s0_10, s0_13, s0_14, s0_15, s0_18, s0_19, s0_20, s0_22, s0_23, s0_26, s0_27, s0_28, s0_31, s0_32, s0_33, s0_35, s0_38, s0_41, z_lt_t, z_lt_f, z_le_t, z_le_f, z_lt0, z_ge0, z_cl, z_in, z_add, z_eq_f, z_ne0, z_00, z_10, z_01, z_11, z_neg1, z_nI_NONE, z_div, z_rem, z_rem2, sw_pu_s, sw_pu_n, true_and, and_true, true_or, or_true, if_true, if_false, not_true_eq_false, not_false_eq_true, h2, h60, e1, z_up_j, e2, z_min1]
theorem k1 {π : Ps} (hP : CPs π M) (ho : π.2 ≤ 24) (h0 : 0 < π.2) : ∃ a, 58 ≤ a ∧ a < 82 ∧ IsPg M a (π.1 (π.2 - 1)) ∧ CPs (π.1, π.2 - 1) (rdM (sw_up (sw_up M 56 1 (nI (a - 58))) 56 2 (nI (π.2 - 1))) 34 a) ∧ ∀ Q, sw_Cal (d + 2) 1 [.ref 56, .ref 34] M Q = Q none (rdM (sw_up (sw_up M 56 1 (nI (a - 58))) 56 2 (nI (π.2 - 1))) 34 a) := by
  obtain ⟨h1, nx, hn, h2, h3⟩ := hP
  have hm := Nat.mod_lt (nx + 23) (show 0 < 24 by omega)
  obtain ⟨hk, hl⟩ := pg_kd hm
  refine ⟨58 + (nx + 23) % 24, by omega, by omega, ?_, ⟨?_, (nx + 23) % 24, hm, ?_, fun i hi => ?_⟩, fun Q => ?_⟩
  · have := h3 (π.2 - 1) (by omega)
    rw [show (nx + 24 - π.2 + (π.2 - 1)) % 24 = (nx + 23) % 24 by omega] at this
    exact this
  · rw [rdM_off 56 (by omega), z_up_s]
  · rw [rdM_off 56 (by omega), z_up_j _ _ (by omega), z_up_s, Nat.add_sub_cancel_left]
  · have hi : i < π.2 - 1 := hi
    have := h3 i (by omega)
    have hm2 := Nat.mod_lt ((nx + 23) % 24 + 24 - (π.2 - 1) + i) (show 0 < 24 by omega)
    show IsPg _ (58 + ((nx + 23) % 24 + 24 - (π.2 - 1) + i) % 24) (π.1 i)
    refine IsPg_c (M := M) ?_ ?_
    · rw [show ((nx + 23) % 24 + 24 - (π.2 - 1) + i) % 24 = (nx + 24 - π.2 + i) % 24 by omega]
      exact this
    · rw [rdM_off _ (by omega), z_up_n _ _ (by omega), z_up_n _ _ (by omega)]
  · have h61 := fun d M Q => k61 (d := d) (M := M) (Q := Q) kd34 hk hl (by omega)
    rw [c1]
    simp (disch := omega) only [s1_0, s1_1, s1_4, s1_7, s1_8, s1_9, s1_12, s1_14, s1_15, s1_16, s1_17, s1_19, s1_20, s1_23, s1_24, s1_25, s1_28, s1_29, s1_30, s1_33, s1_34, s1_35, s1_38, s1_39, s1_42, s1_43, s1_46, z_lt_t, z_lt_f, z_le_t, z_le_f, z_lt0, z_ge0, z_cl, z_in, z_add, z_eq_f, z_ne0, z_00, z_10, z_01, z_11, z_neg1, z_nI_NONE, z_div, z_rem, z_rem2, sw_pu_s, sw_pu_n, true_and, and_true, true_or, or_true, if_true, if_false, not_true_eq_false, not_false_eq_true, h1, h2, z_up_s, z_up_j, z_sub, h61, show nx + 24 - 1 = nx + 23 by omega, z_le0, show ¬ π.2 = 0 by omega, Nat.add_sub_cancel_left]
end ACT
