section OPC
variable {T : Tw} {I : Nat → Tw} {π : Ps} {ρ : Rw} {τ : Tp} {ft sv : Int32} {θ : Tc} {M N : sw_Mem} {c m : Nat} {as : List Value}
/-- n places from S to D: those from lo to hi done -/
def cpr (f : Nat → Int32) (S D lo hi : Nat) : Nat → Int32 := fun p => if D + lo ≤ p ∧ p < D + hi then f (S + (p - D)) else f p
theorem cpr_i {f : Nat → Int32} {S D lo hi p : Nat} (h : D + lo ≤ p ∧ p < D + hi) : cpr f S D lo hi p = f (S + (p - D)) := if_pos h
theorem cpr_o {f : Nat → Int32} {S D lo hi p : Nat} (h : p < D + lo ∨ D + hi ≤ p) : cpr f S D lo hi p = f p := if_neg (by omega)
theorem cpr_fw (M : sw_Mem) (a S D k : Nat) : sw_up (sw_set M a (cpr (M a) S D 0 k)) a (D + k) (M a (S + k)) = sw_set M a (cpr (M a) S D 0 (k + 1)) := by
  funext q p
  rw [z_up]
  by_cases h : q = a
  · subst h
    rw [z_set_s, z_set_s]
    by_cases e : p = D + k
    · subst e
      rw [if_pos ⟨rfl, rfl⟩, cpr_i (by omega), Nat.add_sub_cancel_left]
    · rw [if_neg (fun q => e q.2)]
      by_cases h2 : D ≤ p ∧ p < D + k
      · rw [cpr_i (by omega), cpr_i (by omega)]
      · rw [cpr_o (by omega), cpr_o (by omega)]
  · rw [if_neg (fun q => h q.1), z_set_n _ _ h, z_set_n _ _ h]
theorem cpr_bk (M : sw_Mem) (a S D k n : Nat) (hk : k < n) : sw_up (sw_set M a (cpr (M a) S D (n - k) n)) a (D + (n - 1 - k)) (M a (S + (n - 1 - k))) = sw_set M a (cpr (M a) S D (n - (k + 1)) n) := by
  funext q p
  rw [z_up]
  by_cases h : q = a
  · subst h
    rw [z_set_s, z_set_s]
    by_cases e : p = D + (n - 1 - k)
    · subst e
      rw [if_pos ⟨rfl, rfl⟩, cpr_i (by omega), Nat.add_sub_cancel_left]
    · rw [if_neg (fun q => e q.2)]
      by_cases h2 : D + (n - k) ≤ p ∧ p < D + n
      · rw [cpr_i (by omega), cpr_i (by omega)]
      · rw [cpr_o (by omega), cpr_o (by omega)]
  · rw [if_neg (fun q => h q.1), z_set_n _ _ h, z_set_n _ _ h]
theorem k140F {d : Nat} {Q : Option Value → sw_Mem → Prop} {a b i j n : Nat} (ha : a < 8) (hb : b < 8) (hi : i + n ≤ 40) (hj : j + n ≤ 40) (hij : j ≤ i) : ∀ l k, k + l = n → ∀ u, sw_WP (d + 1) 140 107 [.ref 0, .int (nI a), .int (nI i), .int (nI b), .int (nI j), .int (nI n), .int (nI 0), .int (nI k), u] [] (sw_set N 5 (cpr (N 5) (40 * a + i) (40 * b + j) 0 k)) Q = Q (some (.int (nI n))) (sw_up (sw_set N 5 (cpr (N 5) (40 * a + i) (40 * b + j) 0 n)) 0 10 (nI 0)) := by
  intro l
  induction l with
  | zero =>
    intro k h u
    obtain rfl : k = n := by omega
    refine (s140_107 ..).trans ?_
    simp (disch := omega) only [s140_0, s140_1, s140_4, s140_7, s140_8, s140_11, s140_14, s140_16, s140_17, s140_18, s140_21, s140_22, s140_23, s140_26, s140_27, s140_30, s140_31, s140_32, s140_35, s140_36, s140_37, s140_40, s140_41, s140_42, s140_45, s140_46, s140_47, s140_48, s140_51, s140_52, s140_53, s140_56, s140_57, s140_58, s140_61, s140_62, s140_63, s140_64, s140_65, s140_67, s140_70, s140_73, s140_74, s140_75, s140_77, s140_79, s140_82, s140_85, s140_86, s140_87, s140_90, s140_91, s140_92, s140_94, s140_97, s140_98, s140_101, s140_102, s140_104, s140_105, s140_109, s140_111, s140_114, s140_116, s140_119, s140_121, s140_122, s140_123, s140_125, s140_126, s140_129, s140_131, s140_133, s140_134, s140_137, s140_139, s140_140, s140_141, s140_143, s140_144, s140_146, s140_147, s140_148, s140_151, s140_153, s140_154, s140_155, s140_156, s140_157, s140_159, s140_160, s140_161, s140_162, s140_165, s140_168, s140_169, s140_171, s140_174, z_lt_t, z_lt_f, z_le_t, z_le_f, z_lt0, z_ge0, z_cl, z_in, z_add, z_eq_f, z_ne0, z_00, z_10, z_01, z_11, z_neg1, z_nI_NONE, z_div, z_rem, z_rem2, sw_pu_s, sw_pu_n, true_and, and_true, true_or, or_true, if_true, if_false, not_true_eq_false, not_false_eq_true, k134]
  | succ l ih =>
    intro k h u
    have := ih (k + 1) (by omega) (.int (nI k))
    have hc : cpr (N 5) (40 * a + i) (40 * b + j) 0 k (40 * a + i + k) = N 5 (40 * a + i + k) := cpr_o (by omega)
    refine (s140_107 ..).trans ?_
    simp (disch := omega) only [s140_0, s140_1, s140_4, s140_7, s140_8, s140_11, s140_14, s140_16, s140_17, s140_18, s140_21, s140_22, s140_23, s140_26, s140_27, s140_30, s140_31, s140_32, s140_35, s140_36, s140_37, s140_40, s140_41, s140_42, s140_45, s140_46, s140_47, s140_48, s140_51, s140_52, s140_53, s140_56, s140_57, s140_58, s140_61, s140_62, s140_63, s140_64, s140_65, s140_67, s140_70, s140_73, s140_74, s140_75, s140_77, s140_79, s140_82, s140_85, s140_86, s140_87, s140_90, s140_91, s140_92, s140_94, s140_97, s140_98, s140_101, s140_102, s140_104, s140_105, s140_109, s140_111, s140_114, s140_116, s140_119, s140_121, s140_122, s140_123, s140_125, s140_126, s140_129, s140_131, s140_133, s140_134, s140_137, s140_139, s140_140, s140_141, s140_143, s140_144, s140_146, s140_147, s140_148, s140_151, s140_153, s140_154, s140_155, s140_156, s140_157, s140_159, s140_160, s140_161, s140_162, s140_165, s140_168, s140_169, s140_171, s140_174, z_lt_t, z_lt_f, z_le_t, z_le_f, z_lt0, z_ge0, z_cl, z_in, z_add, z_eq_f, z_ne0, z_00, z_10, z_01, z_11, z_neg1, z_nI_NONE, z_div, z_rem, z_rem2, sw_pu_s, sw_pu_n, true_and, and_true, true_or, or_true, if_true, if_false, not_true_eq_false, not_false_eq_true, z_mul, z_set_s, hc, cpr_fw, this]
theorem k140B {d : Nat} {Q : Option Value → sw_Mem → Prop} {a b i j n : Nat} (ha : a < 8) (hb : b < 8) (hi : i + n ≤ 40) (hj : j + n ≤ 40) (hij : i < j) : ∀ l k, k + l = n → ∀ u, sw_WP (d + 1) 140 107 [.ref 0, .int (nI a), .int (nI i), .int (nI b), .int (nI j), .int (nI n), .int (nI 1), .int (nI k), u] [] (sw_set N 5 (cpr (N 5) (40 * a + i) (40 * b + j) (n - k) n)) Q = Q (some (.int (nI n))) (sw_up (sw_set N 5 (cpr (N 5) (40 * a + i) (40 * b + j) 0 n)) 0 10 (nI 0)) := by
  intro l
  induction l with
  | zero =>
    intro k h u
    obtain rfl : k = n := by omega
    refine (s140_107 ..).trans ?_
    simp (disch := omega) only [s140_0, s140_1, s140_4, s140_7, s140_8, s140_11, s140_14, s140_16, s140_17, s140_18, s140_21, s140_22, s140_23, s140_26, s140_27, s140_30, s140_31, s140_32, s140_35, s140_36, s140_37, s140_40, s140_41, s140_42, s140_45, s140_46, s140_47, s140_48, s140_51, s140_52, s140_53, s140_56, s140_57, s140_58, s140_61, s140_62, s140_63, s140_64, s140_65, s140_67, s140_70, s140_73, s140_74, s140_75, s140_77, s140_79, s140_82, s140_85, s140_86, s140_87, s140_90, s140_91, s140_92, s140_94, s140_97, s140_98, s140_101, s140_102, s140_104, s140_105, s140_109, s140_111, s140_114, s140_116, s140_119, s140_121, s140_122, s140_123, s140_125, s140_126, s140_129, s140_131, s140_133, s140_134, s140_137, s140_139, s140_140, s140_141, s140_143, s140_144, s140_146, s140_147, s140_148, s140_151, s140_153, s140_154, s140_155, s140_156, s140_157, s140_159, s140_160, s140_161, s140_162, s140_165, s140_168, s140_169, s140_171, s140_174, z_lt_t, z_lt_f, z_le_t, z_le_f, z_lt0, z_ge0, z_cl, z_in, z_add, z_eq_f, z_ne0, z_00, z_10, z_01, z_11, z_neg1, z_nI_NONE, z_div, z_rem, z_rem2, sw_pu_s, sw_pu_n, true_and, and_true, true_or, or_true, if_true, if_false, not_true_eq_false, not_false_eq_true, k134, Nat.sub_self]
  | succ l ih =>
    intro k h u
    have := ih (k + 1) (by omega) (.int (nI (n - 1 - k)))
    have hc : cpr (N 5) (40 * a + i) (40 * b + j) (n - k) n (40 * a + i + (n - 1 - k)) = N 5 (40 * a + i + (n - 1 - k)) := cpr_o (by omega)
    refine (s140_107 ..).trans ?_
    simp (disch := omega) only [s140_0, s140_1, s140_4, s140_7, s140_8, s140_11, s140_14, s140_16, s140_17, s140_18, s140_21, s140_22, s140_23, s140_26, s140_27, s140_30, s140_31, s140_32, s140_35, s140_36, s140_37, s140_40, s140_41, s140_42, s140_45, s140_46, s140_47, s140_48, s140_51, s140_52, s140_53, s140_56, s140_57, s140_58, s140_61, s140_62, s140_63, s140_64, s140_65, s140_67, s140_70, s140_73, s140_74, s140_75, s140_77, s140_79, s140_82, s140_85, s140_86, s140_87, s140_90, s140_91, s140_92, s140_94, s140_97, s140_98, s140_101, s140_102, s140_104, s140_105, s140_109, s140_111, s140_114, s140_116, s140_119, s140_121, s140_122, s140_123, s140_125, s140_126, s140_129, s140_131, s140_133, s140_134, s140_137, s140_139, s140_140, s140_141, s140_143, s140_144, s140_146, s140_147, s140_148, s140_151, s140_153, s140_154, s140_155, s140_156, s140_157, s140_159, s140_160, s140_161, s140_162, s140_165, s140_168, s140_169, s140_171, s140_174, z_lt_t, z_lt_f, z_le_t, z_le_f, z_lt0, z_ge0, z_cl, z_in, z_add, z_eq_f, z_ne0, z_00, z_10, z_01, z_11, z_neg1, z_nI_NONE, z_div, z_rem, z_rem2, sw_pu_s, sw_pu_n, true_and, and_true, true_or, or_true, if_true, if_false, not_true_eq_false, not_false_eq_true, z_mul, z_sub, z_set_s, hc, cpr_bk, this]
theorem o_copy (x i y j n : Int32) : Opp 93 140 [.int x, .int i, .int y, .int j, .int n] := by
  intro d T I π ρ τ ft sv θ M N hO hC hM
  have hcr := hC.2.2.2.1
  have hmr := hM.2.2.2.1
  have ho := hO.2.2.2.1
  by_cases bx : 0 ≤ x.toInt ∧ x.toInt < 8
  case neg =>
    refine Res_id hO hC hM (-1000001) (fun Q => ?_) (fun Q => ?_)
    · rw [c93]
      simp (disch := omega) only [s93_0, s93_1, s93_4, s93_7, s93_8, s93_11, s93_14, s93_16, s93_17, s93_18, s93_21, s93_22, s93_25, s93_28, s93_29, s93_32, s93_33, s93_36, s93_39, s93_40, s93_41, s93_44, s93_45, s93_46, s93_49, s93_50, s93_53, s93_54, s93_57, s93_58, s93_61, s93_64, s93_65, s93_66, s93_69, s93_70, s93_71, s93_74, s93_75, s93_76, s93_78, s93_81, s93_84, s93_85, s93_88, s93_89, s93_91, s93_93, s93_96, s93_99, s93_100, s93_101, s93_104, s93_105, s93_106, s93_109, s93_110, s93_111, s93_112, s93_114, s93_116, s93_119, s93_120, s93_122, s93_125, z_lt_t, z_lt_f, z_le_t, z_le_f, z_lt0, z_ge0, z_cl, z_in, z_add, z_eq_f, z_ne0, z_00, z_10, z_01, z_11, z_neg1, z_nI_NONE, z_div, z_rem, z_rem2, sw_pu_s, sw_pu_n, true_and, and_true, true_or, or_true, if_true, if_false, not_true_eq_false, not_false_eq_true, z_ltI, z_gtI, z_leI, z_geI, z_lt0I, z_ge0I, z_gt0I, z_le0I, z_ibI, Int32.toInt_zero, k43, ↓if_pos, ↓if_neg]
    · rw [c140]
      simp (disch := omega) only [s140_0, s140_1, s140_4, s140_7, s140_8, s140_11, s140_14, s140_16, z_lt_t, z_lt_f, z_le_t, z_le_f, z_lt0, z_ge0, z_cl, z_in, z_add, z_eq_f, z_ne0, z_00, z_10, z_01, z_11, z_neg1, z_nI_NONE, z_div, z_rem, z_rem2, sw_pu_s, sw_pu_n, true_and, and_true, true_or, or_true, if_true, if_false, not_true_eq_false, not_false_eq_true, z_ltI, z_gtI, z_leI, z_geI, z_lt0I, z_ge0I, z_gt0I, z_le0I, z_ibI, Int32.toInt_zero, k135, ↓if_pos, ↓if_neg]
  by_cases bv : 0 ≤ y.toInt ∧ y.toInt < 8
  case neg =>
    refine Res_id hO hC hM (-1000001) (fun Q => ?_) (fun Q => ?_)
    · rw [c93]
      simp (disch := omega) only [s93_0, s93_1, s93_4, s93_7, s93_8, s93_11, s93_14, s93_16, s93_17, s93_18, s93_21, s93_22, s93_25, s93_28, s93_29, s93_32, s93_33, s93_36, s93_39, s93_40, s93_41, s93_44, s93_45, s93_46, s93_49, s93_50, s93_53, s93_54, s93_57, s93_58, s93_61, s93_64, s93_65, s93_66, s93_69, s93_70, s93_71, s93_74, s93_75, s93_76, s93_78, s93_81, s93_84, s93_85, s93_88, s93_89, s93_91, s93_93, s93_96, s93_99, s93_100, s93_101, s93_104, s93_105, s93_106, s93_109, s93_110, s93_111, s93_112, s93_114, s93_116, s93_119, s93_120, s93_122, s93_125, z_lt_t, z_lt_f, z_le_t, z_le_f, z_lt0, z_ge0, z_cl, z_in, z_add, z_eq_f, z_ne0, z_00, z_10, z_01, z_11, z_neg1, z_nI_NONE, z_div, z_rem, z_rem2, sw_pu_s, sw_pu_n, true_and, and_true, true_or, or_true, if_true, if_false, not_true_eq_false, not_false_eq_true, z_ltI, z_gtI, z_leI, z_geI, z_lt0I, z_ge0I, z_gt0I, z_le0I, z_ibI, Int32.toInt_zero, k43, ↓if_pos, ↓if_neg]
    · rw [c140]
      simp (disch := omega) only [s140_0, s140_1, s140_4, s140_7, s140_8, s140_11, s140_14, s140_16, z_lt_t, z_lt_f, z_le_t, z_le_f, z_lt0, z_ge0, z_cl, z_in, z_add, z_eq_f, z_ne0, z_00, z_10, z_01, z_11, z_neg1, z_nI_NONE, z_div, z_rem, z_rem2, sw_pu_s, sw_pu_n, true_and, and_true, true_or, or_true, if_true, if_false, not_true_eq_false, not_false_eq_true, z_ltI, z_gtI, z_leI, z_geI, z_lt0I, z_ge0I, z_gt0I, z_le0I, z_ibI, Int32.toInt_zero, k135, ↓if_pos, ↓if_neg]
  obtain ⟨a, ha, rfl⟩ := sw_ib_of (x := x) (n := 8) (by rw [z_ibI]; omega) (by omega)
  obtain ⟨b, hb, rfl⟩ := sw_ib_of (x := y) (n := 8) (by rw [z_ibI]; omega) (by omega)
  obtain ⟨g1, g2, g3⟩ := hmr a ha
  obtain ⟨g1', g2', g3'⟩ := hmr b hb
  have o2 := ho a ha
  have o2' := ho b hb
  have h44 := fun d Q => k44 (d := d) (Q := Q) hcr ho ha
  have h44' := fun d Q => k44 (d := d) (Q := Q) hcr ho hb
  have h46 := fun d Q => k46 (d := d) (Q := Q) hcr ha
  have h46' := fun d Q => k46 (d := d) (Q := Q) hcr hb
  by_cases h0 : ρ.2.1 a = 0
  · refine Res_sv hO hC hM (-1000010 - nI 1) (nI 1) (fun Q => ?_) (fun Q => ?_)
    · rw [c93]
      simp (disch := omega) only [s93_0, s93_1, s93_4, s93_7, s93_8, s93_11, s93_14, s93_16, s93_17, s93_18, s93_21, s93_22, s93_25, s93_28, s93_29, s93_32, s93_33, s93_36, s93_39, s93_40, s93_41, s93_44, s93_45, s93_46, s93_49, s93_50, s93_53, s93_54, s93_57, s93_58, s93_61, s93_64, s93_65, s93_66, s93_69, s93_70, s93_71, s93_74, s93_75, s93_76, s93_78, s93_81, s93_84, s93_85, s93_88, s93_89, s93_91, s93_93, s93_96, s93_99, s93_100, s93_101, s93_104, s93_105, s93_106, s93_109, s93_110, s93_111, s93_112, s93_114, s93_116, s93_119, s93_120, s93_122, s93_125, z_lt_t, z_lt_f, z_le_t, z_le_f, z_lt0, z_ge0, z_cl, z_in, z_add, z_eq_f, z_ne0, z_00, z_10, z_01, z_11, z_neg1, z_nI_NONE, z_div, z_rem, z_rem2, sw_pu_s, sw_pu_n, true_and, and_true, true_or, or_true, if_true, if_false, not_true_eq_false, not_false_eq_true, k43, z_ibt, h0, h44, k124, ↓if_pos, ↓if_neg]
    · rw [c140]
      simp (disch := omega) only [s140_0, s140_1, s140_4, s140_7, s140_8, s140_11, s140_14, s140_16, s140_17, s140_18, s140_21, s140_22, s140_23, s140_26, s140_27, s140_30, s140_31, s140_32, s140_35, s140_36, s140_37, s140_40, z_lt_t, z_lt_f, z_le_t, z_le_f, z_lt0, z_ge0, z_cl, z_in, z_add, z_eq_f, z_ne0, z_00, z_10, z_01, z_11, z_neg1, z_nI_NONE, z_div, z_rem, z_rem2, sw_pu_s, sw_pu_n, true_and, and_true, true_or, or_true, if_true, if_false, not_true_eq_false, not_false_eq_true, g2, z_szv0, z_szvg, k135, k133, z_ibt, h0, ↓if_pos, ↓if_neg]
  by_cases h0' : ρ.2.1 b = 0
  · refine Res_sv hO hC hM (-1000010 - nI 1) (nI 1) (fun Q => ?_) (fun Q => ?_)
    · rw [c93]
      simp (disch := omega) only [s93_0, s93_1, s93_4, s93_7, s93_8, s93_11, s93_14, s93_16, s93_17, s93_18, s93_21, s93_22, s93_25, s93_28, s93_29, s93_32, s93_33, s93_36, s93_39, s93_40, s93_41, s93_44, s93_45, s93_46, s93_49, s93_50, s93_53, s93_54, s93_57, s93_58, s93_61, s93_64, s93_65, s93_66, s93_69, s93_70, s93_71, s93_74, s93_75, s93_76, s93_78, s93_81, s93_84, s93_85, s93_88, s93_89, s93_91, s93_93, s93_96, s93_99, s93_100, s93_101, s93_104, s93_105, s93_106, s93_109, s93_110, s93_111, s93_112, s93_114, s93_116, s93_119, s93_120, s93_122, s93_125, z_lt_t, z_lt_f, z_le_t, z_le_f, z_lt0, z_ge0, z_cl, z_in, z_add, z_eq_f, z_ne0, z_00, z_10, z_01, z_11, z_neg1, z_nI_NONE, z_div, z_rem, z_rem2, sw_pu_s, sw_pu_n, true_and, and_true, true_or, or_true, if_true, if_false, not_true_eq_false, not_false_eq_true, k43, z_ibt, h0, h0', h44, h44', k124, ↓if_pos, ↓if_neg]
    · rw [c140]
      simp (disch := omega) only [s140_0, s140_1, s140_4, s140_7, s140_8, s140_11, s140_14, s140_16, s140_17, s140_18, s140_21, s140_22, s140_23, s140_26, s140_27, s140_30, s140_31, s140_32, s140_35, s140_36, s140_37, s140_40, z_lt_t, z_lt_f, z_le_t, z_le_f, z_lt0, z_ge0, z_cl, z_in, z_add, z_eq_f, z_ne0, z_00, z_10, z_01, z_11, z_neg1, z_nI_NONE, z_div, z_rem, z_rem2, sw_pu_s, sw_pu_n, true_and, and_true, true_or, or_true, if_true, if_false, not_true_eq_false, not_false_eq_true, g2, g2', z_szv0, z_szvg, k135, k133, z_ibt, h0, h0', ↓if_pos, ↓if_neg]
  by_cases h1 : ρ.1 a = ρ.1 b
  case neg =>
    refine Res_sv hO hC hM (-1000010 - nI 5) (nI 5) (fun Q => ?_) (fun Q => ?_)
    · rw [c93]
      simp (disch := omega) only [s93_0, s93_1, s93_4, s93_7, s93_8, s93_11, s93_14, s93_16, s93_17, s93_18, s93_21, s93_22, s93_25, s93_28, s93_29, s93_32, s93_33, s93_36, s93_39, s93_40, s93_41, s93_44, s93_45, s93_46, s93_49, s93_50, s93_53, s93_54, s93_57, s93_58, s93_61, s93_64, s93_65, s93_66, s93_69, s93_70, s93_71, s93_74, s93_75, s93_76, s93_78, s93_81, s93_84, s93_85, s93_88, s93_89, s93_91, s93_93, s93_96, s93_99, s93_100, s93_101, s93_104, s93_105, s93_106, s93_109, s93_110, s93_111, s93_112, s93_114, s93_116, s93_119, s93_120, s93_122, s93_125, z_lt_t, z_lt_f, z_le_t, z_le_f, z_lt0, z_ge0, z_cl, z_in, z_add, z_eq_f, z_ne0, z_00, z_10, z_01, z_11, z_neg1, z_nI_NONE, z_div, z_rem, z_rem2, sw_pu_s, sw_pu_n, true_and, and_true, true_or, or_true, if_true, if_false, not_true_eq_false, not_false_eq_true, k43, z_ibt, h0, h0', h44, h44', h46, h46', k124, ↓if_pos, ↓if_neg]
    · rw [c140]
      simp (disch := omega) only [s140_0, s140_1, s140_4, s140_7, s140_8, s140_11, s140_14, s140_16, s140_17, s140_18, s140_21, s140_22, s140_23, s140_26, s140_27, s140_30, s140_31, s140_32, s140_35, s140_36, s140_37, s140_40, s140_41, s140_42, s140_45, s140_46, s140_47, s140_48, s140_51, s140_52, s140_53, s140_56, s140_57, s140_58, s140_61, z_lt_t, z_lt_f, z_le_t, z_le_f, z_lt0, z_ge0, z_cl, z_in, z_add, z_eq_f, z_ne0, z_00, z_10, z_01, z_11, z_neg1, z_nI_NONE, z_div, z_rem, z_rem2, sw_pu_s, sw_pu_n, true_and, and_true, true_or, or_true, if_true, if_false, not_true_eq_false, not_false_eq_true, g1, g1', g2, g2', z_szv0, z_szvg, k135, k133, z_ibt, h0, h0', ↓if_pos, ↓if_neg]
  obtain ⟨m, hm⟩ : ∃ m, ρ.2.1 a = m + 1 := ⟨ρ.2.1 a - 1, by omega⟩
  obtain ⟨m', hm'⟩ : ∃ m, ρ.2.1 b = m + 1 := ⟨ρ.2.1 b - 1, by omega⟩
  have h45 := fun d Q => k45 (d := d) (Q := Q) hcr ho ha hm i n
  have h45' := fun d Q => k45 (d := d) (Q := Q) hcr ho hb hm' j n
  have h139 := fun d Q => k139 (d := d) (Q := Q) hmr ho ha hm i n
  have h139' := fun d Q => k139 (d := d) (Q := Q) hmr ho hb hm' j n
  rw [h1] at g1 h46
  by_cases h2 : hd i n m
  case neg =>
    refine Res_sv hO hC hM (-1000010 - nI 2) (nI 2) (fun Q => ?_) (fun Q => ?_)
    · rw [c93]
      simp (disch := omega) only [s93_0, s93_1, s93_4, s93_7, s93_8, s93_11, s93_14, s93_16, s93_17, s93_18, s93_21, s93_22, s93_25, s93_28, s93_29, s93_32, s93_33, s93_36, s93_39, s93_40, s93_41, s93_44, s93_45, s93_46, s93_49, s93_50, s93_53, s93_54, s93_57, s93_58, s93_61, s93_64, s93_65, s93_66, s93_69, s93_70, s93_71, s93_74, s93_75, s93_76, s93_78, s93_81, s93_84, s93_85, s93_88, s93_89, s93_91, s93_93, s93_96, s93_99, s93_100, s93_101, s93_104, s93_105, s93_106, s93_109, s93_110, s93_111, s93_112, s93_114, s93_116, s93_119, s93_120, s93_122, s93_125, z_lt_t, z_lt_f, z_le_t, z_le_f, z_lt0, z_ge0, z_cl, z_in, z_add, z_eq_f, z_ne0, z_00, z_10, z_01, z_11, z_neg1, z_nI_NONE, z_div, z_rem, z_rem2, sw_pu_s, sw_pu_n, true_and, and_true, true_or, or_true, if_true, if_false, not_true_eq_false, not_false_eq_true, k43, z_ibt, h0, h0', h44, h44', h45, h46, h46', k124, ↓if_pos, ↓if_neg, h2]
    · rw [c140]
      simp (disch := omega) only [s140_0, s140_1, s140_4, s140_7, s140_8, s140_11, s140_14, s140_16, s140_17, s140_18, s140_21, s140_22, s140_23, s140_26, s140_27, s140_30, s140_31, s140_32, s140_35, s140_36, s140_37, s140_40, s140_41, s140_42, s140_45, s140_46, s140_47, s140_48, s140_51, s140_52, s140_53, s140_56, s140_57, s140_58, s140_61, s140_62, s140_63, s140_64, s140_65, s140_67, s140_70, s140_73, s140_74, s140_75, s140_77, s140_79, s140_82, s140_85, s140_86, s140_87, s140_90, z_lt_t, z_lt_f, z_le_t, z_le_f, z_lt0, z_ge0, z_cl, z_in, z_add, z_eq_f, z_ne0, z_00, z_10, z_01, z_11, z_neg1, z_nI_NONE, z_div, z_rem, z_rem2, sw_pu_s, sw_pu_n, true_and, and_true, true_or, or_true, if_true, if_false, not_true_eq_false, not_false_eq_true, g1, g1', g2, g2', z_szv0, z_szvg, k135, k133, h139, z_ibt, h0, h0', ↓if_pos, ↓if_neg, h2]
  by_cases h2' : hd j n m'
  case neg =>
    refine Res_sv hO hC hM (-1000010 - nI 2) (nI 2) (fun Q => ?_) (fun Q => ?_)
    · rw [c93]
      simp (disch := omega) only [s93_0, s93_1, s93_4, s93_7, s93_8, s93_11, s93_14, s93_16, s93_17, s93_18, s93_21, s93_22, s93_25, s93_28, s93_29, s93_32, s93_33, s93_36, s93_39, s93_40, s93_41, s93_44, s93_45, s93_46, s93_49, s93_50, s93_53, s93_54, s93_57, s93_58, s93_61, s93_64, s93_65, s93_66, s93_69, s93_70, s93_71, s93_74, s93_75, s93_76, s93_78, s93_81, s93_84, s93_85, s93_88, s93_89, s93_91, s93_93, s93_96, s93_99, s93_100, s93_101, s93_104, s93_105, s93_106, s93_109, s93_110, s93_111, s93_112, s93_114, s93_116, s93_119, s93_120, s93_122, s93_125, z_lt_t, z_lt_f, z_le_t, z_le_f, z_lt0, z_ge0, z_cl, z_in, z_add, z_eq_f, z_ne0, z_00, z_10, z_01, z_11, z_neg1, z_nI_NONE, z_div, z_rem, z_rem2, sw_pu_s, sw_pu_n, true_and, and_true, true_or, or_true, if_true, if_false, not_true_eq_false, not_false_eq_true, k43, z_ibt, h0, h0', h44, h44', h45, h45', h46, h46', k124, ↓if_pos, ↓if_neg, h2, h2']
    · rw [c140]
      simp (disch := omega) only [s140_0, s140_1, s140_4, s140_7, s140_8, s140_11, s140_14, s140_16, s140_17, s140_18, s140_21, s140_22, s140_23, s140_26, s140_27, s140_30, s140_31, s140_32, s140_35, s140_36, s140_37, s140_40, s140_41, s140_42, s140_45, s140_46, s140_47, s140_48, s140_51, s140_52, s140_53, s140_56, s140_57, s140_58, s140_61, s140_62, s140_63, s140_64, s140_65, s140_67, s140_70, s140_73, s140_74, s140_75, s140_77, s140_79, s140_82, s140_85, s140_86, s140_87, s140_90, z_lt_t, z_lt_f, z_le_t, z_le_f, z_lt0, z_ge0, z_cl, z_in, z_add, z_eq_f, z_ne0, z_00, z_10, z_01, z_11, z_neg1, z_nI_NONE, z_div, z_rem, z_rem2, sw_pu_s, sw_pu_n, true_and, and_true, true_or, or_true, if_true, if_false, not_true_eq_false, not_false_eq_true, g1, g1', g2, g2', z_szv0, z_szvg, k135, k133, h139, h139', z_ibt, h0, h0', ↓if_pos, ↓if_neg, h2, h2']
  obtain ⟨i', n', rfl, rfl, hi⟩ := hd_of h2 (by omega)
  obtain ⟨j', n'', rfl, en, hj⟩ := hd_of h2' (by omega)
  obtain rfl : n' = n'' := (nI_eq (by omega) (by omega)).mp en
  have h50 := fun d Q => k50 (d := d) (M := M) (Q := Q) (i := i') (j := j') (n := n') ha hb (by omega) (by omega)
  have hcpy : cpr (N 5) (40 * a + i') (40 * b + j') 0 0 = N 5 := by funext p; exact cpr_o (by omega)
  have hcpy' : cpr (N 5) (40 * a + i') (40 * b + j') (n' - 0) n' = N 5 := by funext p; exact cpr_o (by omega)
  refine ⟨T, I, π, (ρ.1, ρ.2.1, upR ρ.2.2 b (va_cpy (M (14 + a)) (M (14 + b)) i' j' n')), τ, ft, nI 0, θ, nI n', _, _, ⟨hO.1, hO.2.1, hO.2.2.1, hO.2.2.2.1, hO.2.2.2.2⟩, ⟨RC_sv (RC_rw hC (CRw_it hcr hb _) (fun k hk => z_set_n _ _ (by omega))) (nI 0), ?_, fun Q => ?_⟩, RM_sv hO.2.2.1.1 (RM_rw hM (MRw_it hmr hb (cpr (N 5) (40 * a + i') (40 * b + j') 0 n') _ (fun p hp => ?_) (fun p hp => ?_)) (fun k hk => z_set_n _ _ (by omega))) (nI 0), ?_, fun Q => ?_⟩
  · exact ((noM.rf.set (by omega)).up (by omega))
  · rw [c93]
    simp (disch := omega) only [s93_0, s93_1, s93_4, s93_7, s93_8, s93_11, s93_14, s93_16, s93_17, s93_18, s93_21, s93_22, s93_25, s93_28, s93_29, s93_32, s93_33, s93_36, s93_39, s93_40, s93_41, s93_44, s93_45, s93_46, s93_49, s93_50, s93_53, s93_54, s93_57, s93_58, s93_61, s93_64, s93_65, s93_66, s93_69, s93_70, s93_71, s93_74, s93_75, s93_76, s93_78, s93_81, s93_84, s93_85, s93_88, s93_89, s93_91, s93_93, s93_96, s93_99, s93_100, s93_101, s93_104, s93_105, s93_106, s93_109, s93_110, s93_111, s93_112, s93_114, s93_116, s93_119, s93_120, s93_122, s93_125, z_lt_t, z_lt_f, z_le_t, z_le_f, z_lt0, z_ge0, z_cl, z_in, z_add, z_eq_f, z_ne0, z_00, z_10, z_01, z_11, z_neg1, z_nI_NONE, z_div, z_rem, z_rem2, sw_pu_s, sw_pu_n, true_and, and_true, true_or, or_true, if_true, if_false, not_true_eq_false, not_false_eq_true, k43, z_ibt, h0, h0', h44, h44', h45, h45', h46, h46', h50, k125, ↓if_pos, ↓if_neg, h2, h2']
  · by_cases e : j' ≤ p ∧ p < j' + n'
    · rw [cpr_i (by omega), z_cpy_i e.1 e.2, show 40 * a + i' + (40 * b + p - (40 * b + j')) = 40 * a + (i' + (p - j')) by omega, g3 _ (by omega), (hcr a ha).2.2 _ (by omega)]
    · rw [cpr_o (by omega), z_cpy_o (by omega), g3' p hp, (hcr b hb).2.2 p hp]
  · rw [cpr_o (by omega)]
  · exact ((noC.rf.set (by omega)).up (by omega))
  · rw [c140]
    by_cases e : i' < j'
    · have hB := k140B (d := d + 18) (N := N) (Q := Q) ha hb (show i' + n' ≤ 40 by omega) (show j' + n' ≤ 40 by omega) e n' 0 (by omega)
      rw [hcpy', set_id N 5 rfl] at hB
      simp (disch := omega) only [s140_0, s140_1, s140_4, s140_7, s140_8, s140_11, s140_14, s140_16, s140_17, s140_18, s140_21, s140_22, s140_23, s140_26, s140_27, s140_30, s140_31, s140_32, s140_35, s140_36, s140_37, s140_40, s140_41, s140_42, s140_45, s140_46, s140_47, s140_48, s140_51, s140_52, s140_53, s140_56, s140_57, s140_58, s140_61, s140_62, s140_63, s140_64, s140_65, s140_67, s140_70, s140_73, s140_74, s140_75, s140_77, s140_79, s140_82, s140_85, s140_86, s140_87, s140_90, s140_91, s140_92, s140_94, s140_97, s140_98, s140_101, s140_102, s140_104, s140_105, z_lt_t, z_lt_f, z_le_t, z_le_f, z_lt0, z_ge0, z_cl, z_in, z_add, z_eq_f, z_ne0, z_00, z_10, z_01, z_11, z_neg1, z_nI_NONE, z_div, z_rem, z_rem2, sw_pu_s, sw_pu_n, true_and, and_true, true_or, or_true, if_true, if_false, not_true_eq_false, not_false_eq_true, g1, g1', g2, g2', z_szv0, z_szvg, k135, h139, h139', z_ibt, h0, h0', ↓if_pos, ↓if_neg, h2, h2', hB]
    · have hB := k140F (d := d + 18) (N := N) (Q := Q) ha hb (show i' + n' ≤ 40 by omega) (show j' + n' ≤ 40 by omega) (show j' ≤ i' by omega) n' 0 (by omega)
      rw [hcpy, set_id N 5 rfl] at hB
      simp (disch := omega) only [s140_0, s140_1, s140_4, s140_7, s140_8, s140_11, s140_14, s140_16, s140_17, s140_18, s140_21, s140_22, s140_23, s140_26, s140_27, s140_30, s140_31, s140_32, s140_35, s140_36, s140_37, s140_40, s140_41, s140_42, s140_45, s140_46, s140_47, s140_48, s140_51, s140_52, s140_53, s140_56, s140_57, s140_58, s140_61, s140_62, s140_63, s140_64, s140_65, s140_67, s140_70, s140_73, s140_74, s140_75, s140_77, s140_79, s140_82, s140_85, s140_86, s140_87, s140_90, s140_91, s140_92, s140_94, s140_97, s140_98, s140_101, s140_102, s140_104, s140_105, z_lt_t, z_lt_f, z_le_t, z_le_f, z_lt0, z_ge0, z_cl, z_in, z_add, z_eq_f, z_ne0, z_00, z_10, z_01, z_11, z_neg1, z_nI_NONE, z_div, z_rem, z_rem2, sw_pu_s, sw_pu_n, true_and, and_true, true_or, or_true, if_true, if_false, not_true_eq_false, not_false_eq_true, g1, g1', g2, g2', z_szv0, z_szvg, k135, h139, h139', z_ibt, h0, h0', ↓if_pos, ↓if_neg, h2, h2', hB]
end OPC
