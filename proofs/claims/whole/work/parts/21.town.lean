/-! a town: 0 BEDS, 1 RUNNERS, 2 LASTS, 3 PEACE, 4 DAY, 5 rock, 9 furrow, 13 temper, 17 FLOUR of beds; 21 kind, 25 rock, 29 furrow, 33 temper, 37 bed (4: none) of runners -/
abbrev Tw : Type := Nat → Nat
def gip (T : Tw) (r b : Nat) : Nat :=
  if T (21 + r) = 2 then 2 * (T (29 + r) + T (9 + b) - df (T (25 + r)) (T (5 + b)))
  else if T (21 + r) = 4 then T (9 + b) / 2
  else if T (21 + r) = 5 then (if T 4 % 3 = 0 then T (9 + b) / 2 + 3 else T (9 + b) / 2)
  else T (29 + r) + T (9 + b) - df (T (25 + r)) (T (5 + b))
def grT (T : Tw) (r b : Nat) : Nat := if T 3 < df (T (33 + r)) (T (13 + b)) then gip T r b / 2 else gip T r b
def WF (T : Tw) : Prop := T 0 ≤ 4 ∧ T 1 ≤ 4 ∧ T 2 ≤ 9 ∧ T 3 ≤ 9 ∧ T 4 ≤ 2000 ∧
  (∀ r, r < T 1 → T (21 + r) ≤ 5 ∧ 1 ≤ T (21 + r) ∧ T (25 + r) ≤ 9 ∧ T (29 + r) ≤ 9 ∧ T (33 + r) ≤ 9 ∧ (T (37 + r) = 4 ∨ T (37 + r) < T 0)) ∧
  (∀ b, b < T 0 → T (5 + b) ≤ 9 ∧ T (9 + b) ≤ 9 ∧ T (13 + b) ≤ 9) ∧
  (∀ r, r < T 1 → ∀ q, q < T 1 → T (37 + r) = T (37 + q) → T (37 + r) ≠ 4 → r = q)
def IsV (M : sw_Mem) (v : Nat) (T : Tw) : Prop := sw_kd v = 6 ∧
  (M v 0 = nI (T 2) ∧ M v 1 = nI (T 3) ∧ M v 2 = nI (T 4) ∧ M v 3 = nI (T 0) ∧ M v 4 = nI (T 1)) ∧
  (∀ r, r < T 1 → M (v + 1) r = nI (T (25 + r)) ∧ M (v + 2) r = nI (T (29 + r)) ∧ M (v + 3) r = nI (T (33 + r)) ∧ M (v + 4) r = nI (T (21 + r)) ∧ M (v + 5) r = bn (T (37 + r))) ∧
  (∀ b, b < T 0 → M (v + 1) (4 + b) = nI (T (5 + b)) ∧ M (v + 2) (4 + b) = nI (T (9 + b)) ∧ M (v + 3) (4 + b) = nI (T (13 + b)) ∧ M (v + 6) b = nI (T (17 + b)))
section VAL
variable {d v : Nat} {M : sw_Mem} {T : Tw} {Q : Option Value → sw_Mem → Prop}
theorem k62 (hV : IsV M v T) (hW : WF T) : sw_Cal (d + 1) 62 [.ref v] M Q = if 0 < T 0 then Q (some (.int (nI 1))) M else Q (some (.int (nI 0))) M := by
  obtain ⟨hv, ⟨-, -, -, h0, -⟩, -, -⟩ := hV
  obtain ⟨w0, -⟩ := hW
  rw [c62]
  simp (disch := omega) only [s62_0, s62_1, s62_4, s62_7, s62_8, s62_11, s62_12, z_lt_t, z_lt_f, z_le_t, z_le_f, z_lt0, z_ge0, z_cl, z_in, z_add, z_eq_f, z_ne0, z_00, z_10, z_01, z_11, z_neg1, z_nI_NONE, z_div, z_rem, z_rem2, sw_pu_s, sw_pu_n, true_and, and_true, true_or, or_true, if_true, if_false, not_true_eq_false, not_false_eq_true, h0]
  by_cases h : 0 < T 0
  · simp (disch := omega) only [z_lt_t, z_lt_f, z_le_t, z_le_f, z_lt0, z_ge0, z_cl, z_in, z_add, z_eq_f, z_ne0, z_00, z_10, z_01, z_11, z_neg1, z_nI_NONE, z_div, z_rem, z_rem2, sw_pu_s, sw_pu_n, true_and, and_true, true_or, or_true, if_true, if_false, not_true_eq_false, not_false_eq_true, h, z_le0, show ¬ T 0 = 0 by omega]
  · rw [if_neg h]
    simp (disch := omega) only [z_lt_t, z_lt_f, z_le_t, z_le_f, z_lt0, z_ge0, z_cl, z_in, z_add, z_eq_f, z_ne0, z_00, z_10, z_01, z_11, z_neg1, z_nI_NONE, z_div, z_rem, z_rem2, sw_pu_s, sw_pu_n, true_and, and_true, true_or, or_true, if_true, if_false, not_true_eq_false, not_false_eq_true, z_le0, show T 0 = 0 by omega]
theorem k63 (hV : IsV M v T) (hW : WF T) (x : Int32) : sw_Cal (d + 1) 63 [.ref v, .int x] M Q = if sw_ib x (T 1) then Q (some (.int (nI 1))) M else Q (some (.int (nI 0))) M := by
  obtain ⟨hv, ⟨-, -, -, -, h1⟩, -, -⟩ := hV
  obtain ⟨-, w1, -⟩ := hW
  rw [c63]
  simp (disch := omega) only [s63_0, s63_1, s63_4, s63_5, s63_6, s63_9, s63_12, s63_13, s63_16, s63_17, z_lt_t, z_lt_f, z_le_t, z_le_f, z_lt0, z_ge0, z_cl, z_in, z_add, z_eq_f, z_ne0, z_00, z_10, z_01, z_11, z_neg1, z_nI_NONE, z_div, z_rem, z_rem2, sw_pu_s, sw_pu_n, true_and, and_true, true_or, or_true, if_true, if_false, not_true_eq_false, not_false_eq_true, h1, sw_ib_i]
  by_cases h : x < 0
  · rw [if_pos h, if_neg (fun q => absurd (Int32.lt_of_lt_of_le h q.1) (Int32.lt_irrefl))]
  · have h' : 0 ≤ x := Int32.not_lt.mp h
    rw [if_neg h]
    by_cases h2 : nI (T 1) ≤ x
    · rw [if_pos h2, if_neg (fun q => absurd (Int32.lt_of_lt_of_le q.2 h2) Int32.lt_irrefl)]
    · rw [if_neg h2, if_pos ⟨h', Int32.not_le.mp h2⟩]
theorem k64 (hV : IsV M v T) (hW : WF T) (x : Int32) : sw_Cal (d + 1) 64 [.ref v, .int x] M Q = if sw_ib x (T 0) then Q (some (.int (nI 1))) M else Q (some (.int (nI 0))) M := by
  obtain ⟨hv, ⟨-, -, -, h0, -⟩, -, -⟩ := hV
  obtain ⟨w0, -⟩ := hW
  rw [c64]
  simp (disch := omega) only [s64_0, s64_1, s64_4, s64_5, s64_6, s64_9, s64_12, s64_13, s64_16, s64_17, z_lt_t, z_lt_f, z_le_t, z_le_f, z_lt0, z_ge0, z_cl, z_in, z_add, z_eq_f, z_ne0, z_00, z_10, z_01, z_11, z_neg1, z_nI_NONE, z_div, z_rem, z_rem2, sw_pu_s, sw_pu_n, true_and, and_true, true_or, or_true, if_true, if_false, not_true_eq_false, not_false_eq_true, h0, sw_ib_i]
  by_cases h : x < 0
  · rw [if_pos h, if_neg (fun q => absurd (Int32.lt_of_lt_of_le h q.1) (Int32.lt_irrefl))]
  · have h' : 0 ≤ x := Int32.not_lt.mp h
    rw [if_neg h]
    by_cases h2 : nI (T 0) ≤ x
    · rw [if_pos h2, if_neg (fun q => absurd (Int32.lt_of_lt_of_le q.2 h2) Int32.lt_irrefl)]
    · rw [if_neg h2, if_pos ⟨h', Int32.not_le.mp h2⟩]
set_option maxHeartbeats 1000000 in
theorem k70 (hV : IsV M v T) (hW : WF T) {r b : Nat} (hr : r < T 1) (hb : b < T 0) : sw_Cal (d + 1) 70 [.ref v, .int (nI r), .int (nI b)] M Q = Q (some (.int (nI (gip T r b)))) M := by
  obtain ⟨hv, ⟨-, -, hday, -, -⟩, hR, hB⟩ := hV
  obtain ⟨w0, w1, -, -, w4, wr, wb, -⟩ := hW
  obtain ⟨r1, r2, r3, r4, r5⟩ := hR r hr
  obtain ⟨b1, b2, b3, b6⟩ := hB b hb
  obtain ⟨y1, y2, y3, y4, y5, -⟩ := wr r hr
  obtain ⟨z1, z2, z3⟩ := wb b hb
  have hdf : df (T (25 + r)) (T (5 + b)) ≤ 9 := by unfold df; split <;> omega
  rw [c70]
  simp (disch := omega) only [s70_0, s70_1, s70_4, s70_5, s70_6, s70_7, s70_10, s70_11, s70_12, s70_13, s70_14, s70_15, s70_16, s70_17, s70_18, s70_19, s70_22, s70_23, s70_24, s70_25, s70_28, s70_29, s70_30, s70_31, s70_32, s70_33, s70_36, s70_37, s70_40, s70_42, s70_43, s70_46, s70_47, s70_48, s70_49, s70_50, s70_51, s70_52, s70_54, s70_55, s70_58, s70_59, s70_60, s70_92, s70_93, s70_95, s70_96, s70_97, s70_99, s70_100, s70_101, s70_104, s70_105, s70_106, s70_109, s70_111, s70_112, s70_113, s70_116, s70_118, s70_119, s70_121, z_lt_t, z_lt_f, z_le_t, z_le_f, z_lt0, z_ge0, z_cl, z_in, z_add, z_eq_f, z_ne0, z_00, z_10, z_01, z_11, z_neg1, z_nI_NONE, z_div, z_rem, z_rem2, sw_pu_s, sw_pu_n, true_and, and_true, true_or, or_true, if_true, if_false, not_true_eq_false, not_false_eq_true, r1, r2, r4, b1, b2, z_abs, z_max0]
  unfold gip
  generalize T (21 + r) = k at y1 y2
  rcases (show k = 1 ∨ k = 2 ∨ k = 3 ∨ k = 4 ∨ k = 5 by omega) with rfl | rfl | rfl | rfl | rfl
  · simp (disch := omega) only [s70_0, s70_1, s70_4, s70_5, s70_6, s70_7, s70_10, s70_11, s70_12, s70_13, s70_14, s70_15, s70_16, s70_17, s70_18, s70_19, s70_22, s70_23, s70_24, s70_25, s70_28, s70_29, s70_30, s70_31, s70_32, s70_33, s70_36, s70_37, s70_40, s70_42, s70_43, s70_46, s70_47, s70_48, s70_49, s70_50, s70_51, s70_52, s70_54, s70_55, s70_58, s70_59, s70_60, s70_92, s70_93, s70_95, s70_96, s70_97, s70_99, s70_100, s70_101, s70_104, s70_105, s70_106, s70_109, s70_111, s70_112, s70_113, s70_116, s70_118, s70_119, s70_121, z_lt_t, z_lt_f, z_le_t, z_le_f, z_lt0, z_ge0, z_cl, z_in, z_add, z_eq_f, z_ne0, z_00, z_10, z_01, z_11, z_neg1, z_nI_NONE, z_div, z_rem, z_rem2, sw_pu_s, sw_pu_n, true_and, and_true, true_or, or_true, if_true, if_false, not_true_eq_false, not_false_eq_true, show sw_pick [2, 3, 4, 5] [92, 119, 97, 100, 119] (nI 1).toInt = 119 from by decide, show ¬ (1 = 2) by decide, show ¬ (1 = 4) by decide, show ¬ (1 = 5) by decide]
  · simp (disch := omega) only [s70_0, s70_1, s70_4, s70_5, s70_6, s70_7, s70_10, s70_11, s70_12, s70_13, s70_14, s70_15, s70_16, s70_17, s70_18, s70_19, s70_22, s70_23, s70_24, s70_25, s70_28, s70_29, s70_30, s70_31, s70_32, s70_33, s70_36, s70_37, s70_40, s70_42, s70_43, s70_46, s70_47, s70_48, s70_49, s70_50, s70_51, s70_52, s70_54, s70_55, s70_58, s70_59, s70_60, s70_92, s70_93, s70_95, s70_96, s70_97, s70_99, s70_100, s70_101, s70_104, s70_105, s70_106, s70_109, s70_111, s70_112, s70_113, s70_116, s70_118, s70_119, s70_121, z_lt_t, z_lt_f, z_le_t, z_le_f, z_lt0, z_ge0, z_cl, z_in, z_add, z_eq_f, z_ne0, z_00, z_10, z_01, z_11, z_neg1, z_nI_NONE, z_div, z_rem, z_rem2, sw_pu_s, sw_pu_n, true_and, and_true, true_or, or_true, if_true, if_false, not_true_eq_false, not_false_eq_true, show sw_pick [2, 3, 4, 5] [92, 119, 97, 100, 119] (nI 2).toInt = 92 from by decide, z_mul]
  · simp (disch := omega) only [s70_0, s70_1, s70_4, s70_5, s70_6, s70_7, s70_10, s70_11, s70_12, s70_13, s70_14, s70_15, s70_16, s70_17, s70_18, s70_19, s70_22, s70_23, s70_24, s70_25, s70_28, s70_29, s70_30, s70_31, s70_32, s70_33, s70_36, s70_37, s70_40, s70_42, s70_43, s70_46, s70_47, s70_48, s70_49, s70_50, s70_51, s70_52, s70_54, s70_55, s70_58, s70_59, s70_60, s70_92, s70_93, s70_95, s70_96, s70_97, s70_99, s70_100, s70_101, s70_104, s70_105, s70_106, s70_109, s70_111, s70_112, s70_113, s70_116, s70_118, s70_119, s70_121, z_lt_t, z_lt_f, z_le_t, z_le_f, z_lt0, z_ge0, z_cl, z_in, z_add, z_eq_f, z_ne0, z_00, z_10, z_01, z_11, z_neg1, z_nI_NONE, z_div, z_rem, z_rem2, sw_pu_s, sw_pu_n, true_and, and_true, true_or, or_true, if_true, if_false, not_true_eq_false, not_false_eq_true, show sw_pick [2, 3, 4, 5] [92, 119, 97, 100, 119] (nI 3).toInt = 119 from by decide, show ¬ (3 = 2) by decide, show ¬ (3 = 4) by decide, show ¬ (3 = 5) by decide]
  · simp (disch := omega) only [s70_0, s70_1, s70_4, s70_5, s70_6, s70_7, s70_10, s70_11, s70_12, s70_13, s70_14, s70_15, s70_16, s70_17, s70_18, s70_19, s70_22, s70_23, s70_24, s70_25, s70_28, s70_29, s70_30, s70_31, s70_32, s70_33, s70_36, s70_37, s70_40, s70_42, s70_43, s70_46, s70_47, s70_48, s70_49, s70_50, s70_51, s70_52, s70_54, s70_55, s70_58, s70_59, s70_60, s70_92, s70_93, s70_95, s70_96, s70_97, s70_99, s70_100, s70_101, s70_104, s70_105, s70_106, s70_109, s70_111, s70_112, s70_113, s70_116, s70_118, s70_119, s70_121, z_lt_t, z_lt_f, z_le_t, z_le_f, z_lt0, z_ge0, z_cl, z_in, z_add, z_eq_f, z_ne0, z_00, z_10, z_01, z_11, z_neg1, z_nI_NONE, z_div, z_rem, z_rem2, sw_pu_s, sw_pu_n, true_and, and_true, true_or, or_true, if_true, if_false, not_true_eq_false, not_false_eq_true, show sw_pick [2, 3, 4, 5] [92, 119, 97, 100, 119] (nI 4).toInt = 97 from by decide, show ¬ (4 = 2) by decide]
  · simp (disch := omega) only [s70_0, s70_1, s70_4, s70_5, s70_6, s70_7, s70_10, s70_11, s70_12, s70_13, s70_14, s70_15, s70_16, s70_17, s70_18, s70_19, s70_22, s70_23, s70_24, s70_25, s70_28, s70_29, s70_30, s70_31, s70_32, s70_33, s70_36, s70_37, s70_40, s70_42, s70_43, s70_46, s70_47, s70_48, s70_49, s70_50, s70_51, s70_52, s70_54, s70_55, s70_58, s70_59, s70_60, s70_92, s70_93, s70_95, s70_96, s70_97, s70_99, s70_100, s70_101, s70_104, s70_105, s70_106, s70_109, s70_111, s70_112, s70_113, s70_116, s70_118, s70_119, s70_121, z_lt_t, z_lt_f, z_le_t, z_le_f, z_lt0, z_ge0, z_cl, z_in, z_add, z_eq_f, z_ne0, z_00, z_10, z_01, z_11, z_neg1, z_nI_NONE, z_div, z_rem, z_rem2, sw_pu_s, sw_pu_n, true_and, and_true, true_or, or_true, if_true, if_false, not_true_eq_false, not_false_eq_true, show sw_pick [2, 3, 4, 5] [92, 119, 97, 100, 119] (nI 5).toInt = 100 from by decide, show ¬ (5 = 2) by decide, show ¬ (5 = 4) by decide, hday]
    by_cases h : T 4 % 3 = 0
    · simp (disch := omega) only [z_lt_t, z_lt_f, z_le_t, z_le_f, z_lt0, z_ge0, z_cl, z_in, z_add, z_eq_f, z_ne0, z_00, z_10, z_01, z_11, z_neg1, z_nI_NONE, z_div, z_rem, z_rem2, sw_pu_s, sw_pu_n, true_and, and_true, true_or, or_true, if_true, if_false, not_true_eq_false, not_false_eq_true, h]
    · simp (disch := omega) only [z_lt_t, z_lt_f, z_le_t, z_le_f, z_lt0, z_ge0, z_cl, z_in, z_add, z_eq_f, z_ne0, z_00, z_10, z_01, z_11, z_neg1, z_nI_NONE, z_div, z_rem, z_rem2, sw_pu_s, sw_pu_n, true_and, and_true, true_or, or_true, if_true, if_false, not_true_eq_false, not_false_eq_true, h]
theorem gip_le (hW : WF T) {r b : Nat} (hr : r < T 1) (hb : b < T 0) : gip T r b ≤ 36 := by
  obtain ⟨w0, w1, -, -, w4, wr, wb, -⟩ := hW
  obtain ⟨y1, y2, y3, y4, y5, -⟩ := wr r hr
  obtain ⟨z1, z2, z3⟩ := wb b hb
  unfold gip
  split
  · omega
  · split
    · omega
    · split
      · split <;> omega
      · omega
theorem grT_le (hW : WF T) {r b : Nat} (hr : r < T 1) (hb : b < T 0) : grT T r b ≤ 36 := by
  have := gip_le hW hr hb
  unfold grT
  split <;> omega
set_option maxHeartbeats 1000000 in
theorem k69 (hV : IsV M v T) (hW : WF T) {r b : Nat} (hr : r < T 1) (hb : b < T 0) : sw_Cal (d + 2) 69 [.ref v, .int (nI r), .int (nI b)] M Q = Q (some (.int (nI (grT T r b)))) M := by
  have h70 := fun Q => k70 (d := d) (Q := Q) hV hW hr hb
  have hg := gip_le hW hr hb
  obtain ⟨hv, ⟨-, h3, hday, -, -⟩, hR, hB⟩ := hV
  obtain ⟨w0, w1, -, w3, w4, wr, wb, -⟩ := hW
  obtain ⟨r1, r2, r3, r4, r5⟩ := hR r hr
  obtain ⟨b1, b2, b3, b6⟩ := hB b hb
  obtain ⟨y1, y2, y3, y4, y5, -⟩ := wr r hr
  obtain ⟨z1, z2, z3⟩ := wb b hb
  have hdf : df (T (33 + r)) (T (13 + b)) ≤ 9 := by unfold df; split <;> omega
  rw [c69]
  simp (disch := omega) only [s69_0, s69_1, s69_2, s69_3, s69_6, s69_7, s69_8, s69_11, s69_12, s69_13, s69_14, s69_17, s69_18, s69_19, s69_20, s69_21, s69_22, s69_25, s69_26, s69_29, s69_32, s69_33, s69_36, s69_37, s69_39, s69_41, s69_44, s69_45, s69_46, s69_47, s69_50, s69_51, z_lt_t, z_lt_f, z_le_t, z_le_f, z_lt0, z_ge0, z_cl, z_in, z_add, z_eq_f, z_ne0, z_00, z_10, z_01, z_11, z_neg1, z_nI_NONE, z_div, z_rem, z_rem2, sw_pu_s, sw_pu_n, true_and, and_true, true_or, or_true, if_true, if_false, not_true_eq_false, not_false_eq_true, h70, r3, b3, z_abs, h3]
  unfold grT
  by_cases h : T 3 < df (T (33 + r)) (T (13 + b))
  · simp (disch := omega) only [z_lt_t, z_lt_f, z_le_t, z_le_f, z_lt0, z_ge0, z_cl, z_in, z_add, z_eq_f, z_ne0, z_00, z_10, z_01, z_11, z_neg1, z_nI_NONE, z_div, z_rem, z_rem2, sw_pu_s, sw_pu_n, true_and, and_true, true_or, or_true, if_true, if_false, not_true_eq_false, not_false_eq_true, h]
  · simp (disch := omega) only [z_lt_t, z_lt_f, z_le_t, z_le_f, z_lt0, z_ge0, z_cl, z_in, z_add, z_eq_f, z_ne0, z_00, z_10, z_01, z_11, z_neg1, z_nI_NONE, z_div, z_rem, z_rem2, sw_pu_s, sw_pu_n, true_and, and_true, true_or, or_true, if_true, if_false, not_true_eq_false, not_false_eq_true, h]
end VAL
