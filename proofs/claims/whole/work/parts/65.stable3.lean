section STC
variable {d : Nat} {T : Tw} {a c : Nat → Nat} {M N : sw_Mem} {Q : Option Value → sw_Mem → Prop}
def mS (T : Tw) (a c : Nat → Nat) (N : sw_Mem) : Prop := IsM N 0 T ∧ IsM N 1107 (lieC T c) ∧ ∀ r, r < 4 → N 8 r = nI (a r)
theorem k182L (hS : mS T a c N) (hW : WF T) (hJ : JC T c) {r : Nat} (hr : r < T 1) (ha : a r < 16) : ∀ n b best most (x5 x6 : Value), b + n = T 0 → most ≤ 36 → best ≤ 4 → sw_WP (d + 2) 182 7 [.ref 0, .int (nI r), .int (nI best), .int (nI most), .int (nI b), x5, x6] [] N Q = Q (some (.int (nI (wnF T (a r) r n b best most)))) N := by
  have w0 := hW.1
  have w1 := hW.2.1
  obtain ⟨hV, hL, hA⟩ := id hS
  have g3 := hV.z 0 (by omega)
  have hAr := hA r (by omega)
  have hWL := WF_lieC hW hJ
  intro n
  induction n with
  | zero =>
    intro b best most x5 x6 hb hm hbe
    obtain rfl : b = T 0 := by omega
    refine (s182_7 ..).trans ?_
    simp (disch := omega) only [s182_0, s182_1, s182_2, s182_3, s182_4, s182_5, s182_9, s182_10, s182_13, s182_14, s182_15, s182_18, s182_19, s182_22, s182_23, s182_25, s182_28, s182_30, s182_31, s182_34, s182_35, s182_36, s182_38, s182_41, s182_44, s182_46, s182_47, s182_50, s182_51, s182_54, s182_55, s182_57, s182_59, s182_62, s182_64, s182_67, s182_68, s182_69, s182_71, s182_74, s182_76, s182_79, s182_80, s182_81, s182_84, s182_87, s182_88, z_lt_t, z_lt_f, z_le_t, z_le_f, z_lt0, z_ge0, z_cl, z_in, z_add, z_eq_f, z_ne0, z_00, z_10, z_01, z_11, z_neg1, z_nI_NONE, z_div, z_rem, z_rem2, sw_pu_s, sw_pu_n, true_and, and_true, true_or, or_true, if_true, if_false, not_true_eq_false, not_false_eq_true, g3]
    rfl
  | succ n ih =>
    intro b best most x5 x6 hb hm hbe
    have h69 := fun d Q => k163 (d := d) (Q := Q) (r := r) (b := b) hL (by omega) hWL (by rw [lieC_o _ _ (by omega)]; exact hr) (by rw [lieC_o _ _ (by omega)]; omega)
    rw [lieC_gr _ _ (by omega) (by omega)] at h69
    have hg := grT_le hW hr (show b < T 0 by omega)
    have hbt := fun d Q => k130 (d := d) (M := N) (Q := Q) ha (show b < 4 by omega)
    rw [wnF_s]
    refine (s182_7 ..).trans ?_
    by_cases c : bit (a r) b = 0 ∧ most < grT T r b
    · rw [if_pos c, ← ih (b + 1) b (grT T r b) (.int (nI (grT T r b))) (.int (nI 1)) (by omega) hg (by omega)]
      simp (disch := omega) only [s182_0, s182_1, s182_2, s182_3, s182_4, s182_5, s182_9, s182_10, s182_13, s182_14, s182_15, s182_18, s182_19, s182_22, s182_23, s182_25, s182_28, s182_30, s182_31, s182_34, s182_35, s182_36, s182_38, s182_41, s182_44, s182_46, s182_47, s182_50, s182_51, s182_54, s182_55, s182_57, s182_59, s182_62, s182_64, s182_67, s182_68, s182_69, s182_71, s182_74, s182_76, s182_79, s182_80, s182_81, s182_84, s182_87, s182_88, z_lt_t, z_lt_f, z_le_t, z_le_f, z_lt0, z_ge0, z_cl, z_in, z_add, z_eq_f, z_ne0, z_00, z_10, z_01, z_11, z_neg1, z_nI_NONE, z_div, z_rem, z_rem2, sw_pu_s, sw_pu_n, true_and, and_true, true_or, or_true, if_true, if_false, not_true_eq_false, not_false_eq_true, g3, h69, hAr, hbt, c.1, show ¬ (0 = 1) by decide]
    · rw [if_neg c, ← ih (b + 1) best most (.int (nI (grT T r b))) (.int (nI 0)) (by omega) hm hbe]
      rcases bit_01 (a r) b with e | e
      · have c2 : grT T r b ≤ most := by omega
        simp (disch := omega) only [s182_0, s182_1, s182_2, s182_3, s182_4, s182_5, s182_9, s182_10, s182_13, s182_14, s182_15, s182_18, s182_19, s182_22, s182_23, s182_25, s182_28, s182_30, s182_31, s182_34, s182_35, s182_36, s182_38, s182_41, s182_44, s182_46, s182_47, s182_50, s182_51, s182_54, s182_55, s182_57, s182_59, s182_62, s182_64, s182_67, s182_68, s182_69, s182_71, s182_74, s182_76, s182_79, s182_80, s182_81, s182_84, s182_87, s182_88, z_lt_t, z_lt_f, z_le_t, z_le_f, z_lt0, z_ge0, z_cl, z_in, z_add, z_eq_f, z_ne0, z_00, z_10, z_01, z_11, z_neg1, z_nI_NONE, z_div, z_rem, z_rem2, sw_pu_s, sw_pu_n, true_and, and_true, true_or, or_true, if_true, if_false, not_true_eq_false, not_false_eq_true, g3, h69, hAr, hbt, e, show ¬ (0 = 1) by decide]
      · simp (disch := omega) only [s182_0, s182_1, s182_2, s182_3, s182_4, s182_5, s182_9, s182_10, s182_13, s182_14, s182_15, s182_18, s182_19, s182_22, s182_23, s182_25, s182_28, s182_30, s182_31, s182_34, s182_35, s182_36, s182_38, s182_41, s182_44, s182_46, s182_47, s182_50, s182_51, s182_54, s182_55, s182_57, s182_59, s182_62, s182_64, s182_67, s182_68, s182_69, s182_71, s182_74, s182_76, s182_79, s182_80, s182_81, s182_84, s182_87, s182_88, z_lt_t, z_lt_f, z_le_t, z_le_f, z_lt0, z_ge0, z_cl, z_in, z_add, z_eq_f, z_ne0, z_00, z_10, z_01, z_11, z_neg1, z_nI_NONE, z_div, z_rem, z_rem2, sw_pu_s, sw_pu_n, true_and, and_true, true_or, or_true, if_true, if_false, not_true_eq_false, not_false_eq_true, g3, h69, hAr, hbt, e]
theorem k182 (hS : mS T a c N) (hW : WF T) (hJ : JC T c) {r : Nat} (hr : r < T 1) (ha : a r < 16) : sw_Cal (d + 3) 182 [.ref 0, .int (nI r)] N Q = Q (some (.int (nI (wn T (a r) r)))) N := by
  have := k182L (d := d) (Q := Q) hS hW hJ hr ha (T 0) 0 4 0 sw_U sw_U (by omega) (by omega) (by omega)
  rw [c182]
  simp (disch := omega) only [s182_0, s182_1, s182_2, s182_3, s182_4, s182_5]
  exact this
theorem k183L (hS : mS T a c N) (hW : WF T) (hJ : JC T c) (ha : ∀ r, r < 4 → a r < 16) : ∀ n r, r + n = T 1 → sw_WP (d + 3) 183 2 [.ref 0, .int (nI r)] [] N Q = Q (some (.int (bn (naF T a c n r)))) N := by
  have w0 := hW.1
  have w1 := hW.2.1
  obtain ⟨hV, hL, hA⟩ := id hS
  have g4 := hV.z 1 (by omega)
  intro n
  induction n with
  | zero =>
    intro r hr
    obtain rfl : r = T 1 := by omega
    refine (s183_2 ..).trans ?_
    simp (disch := omega) only [s183_0, s183_1, s183_3, s183_4, s183_7, s183_8, s183_9, s183_12, s183_13, s183_16, s183_19, s183_20, s183_21, s183_22, s183_23, s183_26, s183_27, s183_28, s183_31, s183_32, s183_35, s183_36, s183_37, s183_40, s183_43, s183_45, z_lt_t, z_lt_f, z_le_t, z_le_f, z_lt0, z_ge0, z_cl, z_in, z_add, z_eq_f, z_ne0, z_00, z_10, z_01, z_11, z_neg1, z_nI_NONE, z_div, z_rem, z_rem2, sw_pu_s, sw_pu_n, true_and, and_true, true_or, or_true, if_true, if_false, not_true_eq_false, not_false_eq_true, g4]
    rfl
  | succ n ih =>
    intro r hr
    have h82 := fun d Q => k182 (d := d) (Q := Q) hS hW hJ (show r < T 1 by omega) (ha r (by omega))
    have hCr := hL (37 + r) (by omega)
    rw [lieC_r _ _ (by omega), show 1107 + (37 + r) = 1144 + r by omega] at hCr
    have hJr := hJ.1 r (by omega)
    have hwp := wn_p T (a r) r
    have := ih (r + 1) (by omega)
    rw [naF_s]
    refine (s183_2 ..).trans ?_
    by_cases e : c r = 4
    · by_cases e2 : wn T (a r) r = 4
      · rw [if_neg (fun q => q.2 e2), ← this]
        simp (disch := omega) only [s183_0, s183_1, s183_3, s183_4, s183_7, s183_8, s183_9, s183_12, s183_13, s183_16, s183_19, s183_20, s183_21, s183_22, s183_23, s183_26, s183_27, s183_28, s183_31, s183_32, s183_35, s183_36, s183_37, s183_40, s183_43, s183_45, z_lt_t, z_lt_f, z_le_t, z_le_f, z_lt0, z_ge0, z_cl, z_in, z_add, z_eq_f, z_ne0, z_00, z_10, z_01, z_11, z_neg1, z_nI_NONE, z_div, z_rem, z_rem2, sw_pu_s, sw_pu_n, true_and, and_true, true_or, or_true, if_true, if_false, not_true_eq_false, not_false_eq_true, g4, hCr, e, h82, e2]
      · rw [if_pos ⟨e, e2⟩]
        rw [bn_n (show r ≠ 4 by omega)]
        simp (disch := omega) only [s183_0, s183_1, s183_3, s183_4, s183_7, s183_8, s183_9, s183_12, s183_13, s183_16, s183_19, s183_20, s183_21, s183_22, s183_23, s183_26, s183_27, s183_28, s183_31, s183_32, s183_35, s183_36, s183_37, s183_40, s183_43, s183_45, z_lt_t, z_lt_f, z_le_t, z_le_f, z_lt0, z_ge0, z_cl, z_in, z_add, z_eq_f, z_ne0, z_00, z_10, z_01, z_11, z_neg1, z_nI_NONE, z_div, z_rem, z_rem2, sw_pu_s, sw_pu_n, true_and, and_true, true_or, or_true, if_true, if_false, not_true_eq_false, not_false_eq_true, g4, hCr, e, h82, e2]
    · rw [if_neg (fun q => e q.1), ← this]
      simp (disch := omega) only [s183_0, s183_1, s183_3, s183_4, s183_7, s183_8, s183_9, s183_12, s183_13, s183_16, s183_19, s183_20, s183_21, s183_22, s183_23, s183_26, s183_27, s183_28, s183_31, s183_32, s183_35, s183_36, s183_37, s183_40, s183_43, s183_45, z_lt_t, z_lt_f, z_le_t, z_le_f, z_lt0, z_ge0, z_cl, z_in, z_add, z_eq_f, z_ne0, z_00, z_10, z_01, z_11, z_neg1, z_nI_NONE, z_div, z_rem, z_rem2, sw_pu_s, sw_pu_n, true_and, and_true, true_or, or_true, if_true, if_false, not_true_eq_false, not_false_eq_true, g4, hCr, e]
theorem k183 (hS : mS T a c N) (hW : WF T) (hJ : JC T c) (ha : ∀ r, r < 4 → a r < 16) : sw_Cal (d + 4) 183 [.ref 0] N Q = Q (some (.int (bn (naB T a c)))) N := by
  have := k183L (d := d) (Q := Q) hS hW hJ ha (T 1) 0 (by omega)
  rw [c183]
  simp (disch := omega) only [s183_0, s183_1]
  exact this
def sN (N N' : sw_Mem) : Prop := (∀ k, k ≠ 1 → k ≠ 8 → N' k = N k) ∧ ∀ j, j < 1144 ∨ 1148 ≤ j → N' 1 j = N 1 j
theorem sN.rf : sN N N := ⟨fun _ _ _ => rfl, fun _ _ => rfl⟩
theorem sN.tr {N1 N2 : sw_Mem} (h : sN N N1) (h2 : sN N1 N2) : sN N N2 := ⟨fun k h1 h3 => (h2.1 k h1 h3).trans (h.1 k h1 h3), fun j hj => (h2.2 j hj).trans (h.2 j hj)⟩
theorem sN.u8 {N1 : sw_Mem} {j : Nat} {x : Int32} (h : sN N N1) : sN N (sw_up N1 8 j x) := ⟨fun k h1 h3 => (z_up_n _ _ h3).trans (h.1 k h1 h3), fun j hj => by rw [z_up_n _ _ (by omega)]; exact h.2 j hj⟩
theorem sN.u1 {N1 : sw_Mem} {j : Nat} {x : Int32} (h : sN N N1) (hj : 1144 ≤ j ∧ j < 1148) : sN N (sw_up N1 1 j x) := ⟨fun k h1 h3 => (z_up_n _ _ h1).trans (h.1 k h1 h3), fun q hq => by rw [z_up_j _ _ (by omega)]; exact h.2 q hq⟩
theorem sN.sM {N' : sw_Mem} (h : sN N N') : sM N N' := ⟨fun k h1 h3 => h.1 k h1 (by omega), fun j hj => h.2 j (by omega)⟩
theorem mS_u1 (hS : mS T a c N) {r x : Nat} (hr : r < 4) : mS T a (upT c r x) (sw_up N 1 (1144 + r) (nI x)) := by
  have := IsM.up hS.2.1 (37 + r) x
  rw [lieC_up _ _ hr, show 1107 + (37 + r) = 1144 + r by omega] at this
  exact ⟨IsM_c hS.1 (fun j _ _ => z_up_j _ _ (by omega)), this, fun q hq => by rw [z_up_n _ _ (by omega)]; exact hS.2.2 q hq⟩
theorem mS_u8 (hS : mS T a c N) {r x : Nat} (hr : r < 4) : mS T (upT a r x) c (sw_up N 8 r (nI x)) := by
  refine ⟨IsM_c hS.1 (fun j _ _ => by rw [z_up_n _ _ (by omega)]), IsM_c hS.2.1 (fun j _ _ => by rw [z_up_n _ _ (by omega)]), fun q hq => ?_⟩
  by_cases e : q = r
  · subst e; rw [z_up_s, upT_s]
  · rw [z_up_j _ _ e, upT_n _ _ e]; exact hS.2.2 q hq
theorem k184L (hW : WF T) {k : Nat} (hk : k < T 1) : ∀ n (a c : Nat → Nat) (N : sw_Mem) (x3 x4 : Value), rem a ≤ n → mS T a c N → JC T c → (∀ r, r < 4 → a r < 16) → ∃ N', sN N N' ∧ ∀ Q, sw_WP (d + 4) 184 51 [.ref 0, .int (nI k), .int (bn (naB T a c)), x3, x4] [] N Q = Q (some (.int (bn (stF T n a c k)))) N' := by
  have w0 := hW.1
  have w1 := hW.2.1
  have stop : ∀ n (a c : Nat → Nat) (N : sw_Mem) (x3 x4 : Value), naB T a c = 4 → mS T a c N → JC T c → ∃ N', sN N N' ∧ ∀ Q, sw_WP (d + 4) 184 51 [.ref 0, .int (nI k), .int (bn (naB T a c)), x3, x4] [] N Q = Q (some (.int (bn (stF T n a c k)))) N' := by
    intro n a c N x3 x4 e hS hJ
    rw [stF_e _ e, e]
    have hCr := hS.2.1 (37 + k) (by omega)
    rw [lieC_r _ _ (by omega), show 1107 + (37 + k) = 1144 + k by omega] at hCr
    have hJr := hJ.1 k (by omega)
    refine ⟨N, sN.rf, fun Q => ?_⟩
    rw [bn_4]
    refine (s184_51 ..).trans ?_
    simp (disch := omega) only [s184_0, s184_1, s184_2, s184_5, s184_8, s184_10, s184_11, s184_12, s184_15, s184_16, s184_17, s184_18, s184_19, s184_22, s184_23, s184_26, s184_29, s184_30, s184_31, s184_32, s184_33, s184_34, s184_37, s184_38, s184_39, s184_40, s184_43, s184_46, s184_47, s184_50, s184_52, s184_54, s184_57, s184_58, s184_59, s184_62, s184_63, s184_64, s184_67, s184_68, s184_71, s184_73, s184_74, s184_77, s184_78, s184_79, s184_80, s184_81, s184_82, s184_83, s184_84, s184_85, s184_87, s184_89, s184_92, s184_93, s184_96, s184_98, s184_99, s184_102, s184_103, s184_106, s184_107, s184_108, s184_111, s184_114, s184_115, s184_118, s184_121, s184_122, s184_123, s184_124, s184_125, s184_127, s184_129, s184_132, s184_133, s184_136, s184_139, s184_141, s184_142, s184_143, s184_144, s184_145, s184_148, s184_149, s184_152, s184_153, s184_154, s184_157, s184_160, s184_161, s184_162, s184_163, s184_166, z_lt_t, z_lt_f, z_le_t, z_le_f, z_lt0, z_ge0, z_cl, z_in, z_add, z_eq_f, z_ne0, z_00, z_10, z_01, z_11, z_neg1, z_nI_NONE, z_div, z_rem, z_rem2, sw_pu_s, sw_pu_n, true_and, and_true, true_or, or_true, if_true, if_false, not_true_eq_false, not_false_eq_true, hCr, k173]
  intro n
  induction n with
  | zero =>
    intro a c N x3 x4 hr hS hJ ha
    exact stop 0 a c N x3 x4 (rem_0 w0 w1 ha (by omega)) hS hJ
  | succ n ih =>
    intro a c N x3 x4 hr hS hJ ha
    rcases naB_p T a c with e | ⟨h1, h2, h3⟩
    · exact stop (n + 1) a c N x3 x4 e hS hJ
    · have hne : naB T a c ≠ 4 := by omega
      rw [stF_s _ hne, bn_n hne]
      have h82 := fun d Q => k182 (d := d) (Q := Q) hS hW hJ h1 (ha _ (by omega))
      obtain ⟨q1, q2⟩ := (wn_p T (a (naB T a c)) (naB T a c)).resolve_left h3
      have ha' := a_ok ha (show naB T a c < 4 by omega) (by omega) q2
      have hJ' := JC_nx w0 w1 hJ h1 q1 h2
      have hl := ha (naB T a c) (by omega)
      have hrm := rem_s (r := naB T a c) (by omega) hl (show wn T (a (naB T a c)) (naB T a c) < 4 by omega) q2
      generalize hr' : naB T a c = r at *
      generalize hb' : wn T (a r) r = b at *
      have hor := bit_or hl (show b < 4 by omega)
      rw [if_neg (by omega)] at hor
      have hWL := WF_lieC hW hJ
      have e0 : lieC T c 0 = T 0 := lieC_o _ _ (by omega)
      have e1 : lieC T c 1 = T 1 := lieC_o _ _ (by omega)
      have h162 := fun d Q => k162 (d := d) (Q := Q) hS.2.1 (by omega) hWL (show b < 4 by omega)
      have hAr := hS.2.2 r (by omega)
      have hS1 := mS_u8 hS (r := r) (x := a r + 2 ^ b) (by omega)
      have l1 := grT_le hW h1 q1
      have g1 := fun d Q => k163 (d := d) (Q := Q) (r := r) (b := b) hS1.2.1 (by omega) hWL (by omega) (by omega)
      rw [lieC_gr _ _ (by omega) (by omega)] at g1
      have fin : ∀ (c' : Nat → Nat) (N1 : sw_Mem) (x3 x4 : Int32), cNx T c r b = c' → mS T (upT a r (a r + 2 ^ b)) c' N1 → sN N N1 → ∃ N', sN N N' ∧ ∀ Q, sw_WP (d + 4) 184 144 [.ref 0, .int (nI k), .int (nI r), .int x3, .int x4] [] N1 Q = Q (some (.int (bn (stF T n (upT a r (a r + 2 ^ b)) (cNx T c r b) k)))) N' := by
        intro c' N1 x3 x4 ec hS2 hs2
        rw [ec] at hJ' ⊢
        have h83 := fun d Q => k183 (d := d) (Q := Q) hS2 hW hJ' ha'
        obtain ⟨N', f1, f2⟩ := ih (upT a r (a r + 2 ^ b)) c' N1 (.int x3) (.int x4) (by omega) hS2 hJ' ha'
        refine ⟨N', hs2.tr f1, fun Q => ?_⟩
        rw [← f2 Q]
        simp (disch := omega) only [s184_144, s184_145, s184_148, s184_149, z_lt_t, z_lt_f, z_le_t, z_le_f, z_lt0, z_ge0, z_cl, z_in, z_add, z_eq_f, z_ne0, z_00, z_10, z_01, z_11, z_neg1, z_nI_NONE, z_div, z_rem, z_rem2, sw_pu_s, sw_pu_n, true_and, and_true, true_or, or_true, if_true, if_false, not_true_eq_false, not_false_eq_true, h83]
      have n8 : sN N (sw_up N 8 r (nI (a r + 2 ^ b))) := sN.rf.u8
      by_cases h : onB (lieC T c) b = 4
      · have ec : cNx T c r b = upT c r b := if_pos h
        rw [h, bn_4] at h162
        obtain ⟨N', f1, f2⟩ := fin _ _ (nI b) (-1000000) ec (mS_u1 hS1 (r := r) (x := b) (by omega)) (n8.u1 (by omega))
        refine ⟨N', f1, fun Q => ?_⟩
        rw [← f2 Q]
        refine (s184_51 ..).trans ?_
        simp (disch := omega) only [s184_52, s184_54, s184_57, s184_58, s184_59, s184_62, s184_63, s184_64, s184_67, s184_68, s184_71, s184_73, s184_74, s184_77, s184_78, s184_79, s184_80, s184_81, s184_82, s184_83, s184_84, s184_85, s184_87, s184_89, s184_92, s184_93, s184_96, s184_98, s184_99, s184_102, s184_103, s184_106, s184_107, s184_108, s184_111, s184_114, s184_115, s184_118, s184_121, s184_122, s184_123, s184_124, s184_125, s184_127, s184_129, s184_132, s184_133, s184_136, s184_139, s184_141, s184_142, s184_143, z_lt_t, z_lt_f, z_le_t, z_le_f, z_lt0, z_ge0, z_cl, z_in, z_add, z_eq_f, z_ne0, z_00, z_10, z_01, z_11, z_neg1, z_nI_NONE, z_div, z_rem, z_rem2, sw_pu_s, sw_pu_n, true_and, and_true, true_or, or_true, if_true, if_false, not_true_eq_false, not_false_eq_true, h82, h162, hAr, hor]
      · have hon := (onB_lt (lieC T c) b).resolve_left h
        rw [e1] at hon
        rw [bn_n h] at h162
        have g2 := fun d Q => k163 (d := d) (Q := Q) (r := onB (lieC T c) b) (b := b) hS1.2.1 (by omega) hWL (by omega) (by omega)
        rw [lieC_gr _ _ (by omega) (by omega)] at g2
        have l2 := grT_le hW hon q1
        have hat := onB_at (T := lieC T c) (by omega) h
        rw [lieC_r _ _ (by omega)] at hat
        have hne2 : onB (lieC T c) b ≠ r := fun q => by rw [q] at hat; omega
        generalize ho : onB (lieC T c) b = o at *
        by_cases h2 : grT T o b < grT T r b
        · have ec : cNx T c r b = upT (upT c r b) o 4 := by
            unfold cNx
            rw [ho, if_neg h, if_pos h2]
            funext q
            by_cases q1 : q = r
            · subst q1; rw [upT_s, upT_n _ _ (by omega), upT_s]
            · rw [upT_n _ _ q1]
              by_cases q2 : q = o
              · subst q2; rw [upT_s, upT_s]
              · rw [upT_n _ _ q2, upT_n _ _ q2, upT_n _ _ q1]
          obtain ⟨N', f1, f2⟩ := fin _ _ (nI b) (nI o) ec (mS_u1 (mS_u1 hS1 (r := r) (x := b) (by omega)) (r := o) (x := 4) (by omega)) ((n8.u1 (by omega)).u1 (by omega))
          refine ⟨N', f1, fun Q => ?_⟩
          rw [← f2 Q]
          refine (s184_51 ..).trans ?_
          simp (disch := omega) only [s184_52, s184_54, s184_57, s184_58, s184_59, s184_62, s184_63, s184_64, s184_67, s184_68, s184_71, s184_73, s184_74, s184_77, s184_78, s184_79, s184_80, s184_81, s184_82, s184_83, s184_84, s184_85, s184_87, s184_89, s184_92, s184_93, s184_96, s184_98, s184_99, s184_102, s184_103, s184_106, s184_107, s184_108, s184_111, s184_114, s184_115, s184_118, s184_121, s184_122, s184_123, s184_124, s184_125, s184_127, s184_129, s184_132, s184_133, s184_136, s184_139, s184_141, s184_142, s184_143, z_lt_t, z_lt_f, z_le_t, z_le_f, z_lt0, z_ge0, z_cl, z_in, z_add, z_eq_f, z_ne0, z_00, z_10, z_01, z_11, z_neg1, z_nI_NONE, z_div, z_rem, z_rem2, sw_pu_s, sw_pu_n, true_and, and_true, true_or, or_true, if_true, if_false, not_true_eq_false, not_false_eq_true, h82, h162, hAr, hor, g1, g2]
        · have ec : cNx T c r b = c := by
            unfold cNx
            rw [ho, if_neg h, if_neg h2]
          obtain ⟨N', f1, f2⟩ := fin _ _ (nI b) (nI o) ec hS1 n8
          refine ⟨N', f1, fun Q => ?_⟩
          rw [← f2 Q]
          refine (s184_51 ..).trans ?_
          simp (disch := omega) only [s184_52, s184_54, s184_57, s184_58, s184_59, s184_62, s184_63, s184_64, s184_67, s184_68, s184_71, s184_73, s184_74, s184_77, s184_78, s184_79, s184_80, s184_81, s184_82, s184_83, s184_84, s184_85, s184_87, s184_89, s184_92, s184_93, s184_96, s184_98, s184_99, s184_102, s184_103, s184_106, s184_107, s184_108, s184_111, s184_114, s184_115, s184_118, s184_121, s184_122, s184_123, s184_124, s184_125, s184_127, s184_129, s184_132, s184_133, s184_136, s184_139, s184_141, s184_142, s184_143, z_lt_t, z_lt_f, z_le_t, z_le_f, z_lt0, z_ge0, z_cl, z_in, z_add, z_eq_f, z_ne0, z_00, z_10, z_01, z_11, z_neg1, z_nI_NONE, z_div, z_rem, z_rem2, sw_pu_s, sw_pu_n, true_and, and_true, true_or, or_true, if_true, if_false, not_true_eq_false, not_false_eq_true, h82, h162, hAr, hor, g1, g2]
theorem k184P {k : Nat} : ∀ n i (c : Nat → Nat) (N : sw_Mem), i + n = 4 → IsM N 0 T → IsM N 1107 (lieC T c) → (∀ r, r < i → c r = 4 ∧ N 8 r = nI 0) → ∃ N', mS T (fun _ => 0) (fun _ => 4) N' ∧ sN N N' ∧ ∀ Q, sw_WP d 184 17 [.ref 0, .int (nI k), .int (nI i), sw_U, sw_U] [] N Q = sw_WP d 184 46 [.ref 0, .int (nI k), .int (nI 4), sw_U, sw_U] [] N' Q := by
  intro n
  induction n with
  | zero =>
    intro i c N hi h0 h1 h2
    obtain rfl : i = 4 := by omega
    have e : lieC T c = lieC T (fun _ => 4) := by
      funext q
      unfold lieC
      split
      · exact (h2 _ (by omega)).1
      · rfl
    rw [e] at h1
    refine ⟨N, ⟨h0, h1, fun r hr => (h2 r hr).2⟩, sN.rf, fun Q => ?_⟩
    refine (s184_17 ..).trans ?_
    simp (disch := omega) only [s184_18, s184_19, z_lt_t, z_lt_f, z_le_t, z_le_f, z_lt0, z_ge0, z_cl, z_in, z_add, z_eq_f, z_ne0, z_00, z_10, z_01, z_11, z_neg1, z_nI_NONE, z_div, z_rem, z_rem2, sw_pu_s, sw_pu_n, true_and, and_true, true_or, or_true, if_true, if_false, not_true_eq_false, not_false_eq_true]
  | succ n ih =>
    intro i c N hi h0 h1 h2
    have h3 := IsM.up h1 (37 + i) 4
    rw [lieC_up _ _ (by omega), show 1107 + (37 + i) = 1144 + i by omega] at h3
    obtain ⟨N', f1, f2, f3⟩ := ih (i + 1) (upT c i 4) (sw_up (sw_up N 1 (1144 + i) (nI 4)) 8 i (nI 0)) (by omega) (IsM_c h0 (fun j _ _ => by rw [z_up_n _ _ (by omega), z_up_j _ _ (by omega)])) (IsM_c h3 (fun j _ _ => by rw [z_up_n _ _ (by omega)])) (fun r hr => by
      by_cases e : r = i
      · subst e; exact ⟨upT_s _ _ _, z_up_s _ _ _ _⟩
      · exact ⟨by rw [upT_n _ _ e]; exact (h2 r (by omega)).1, by rw [z_up_j _ _ e, z_up_n _ _ (by omega)]; exact (h2 r (by omega)).2⟩)
    refine ⟨N', f1, (sN.rf.u1 (by omega)).u8.tr f2, fun Q => ?_⟩
    rw [← f3 Q]
    refine (s184_17 ..).trans ?_
    simp (disch := omega) only [s184_18, s184_19, s184_22, s184_23, s184_26, s184_29, s184_30, s184_31, s184_32, s184_33, s184_34, s184_37, s184_38, s184_39, s184_40, s184_43, z_lt_t, z_lt_f, z_le_t, z_le_f, z_lt0, z_ge0, z_cl, z_in, z_add, z_eq_f, z_ne0, z_00, z_10, z_01, z_11, z_neg1, z_nI_NONE, z_div, z_rem, z_rem2, sw_pu_s, sw_pu_n, true_and, and_true, true_or, or_true, if_true, if_false, not_true_eq_false, not_false_eq_true]
theorem o_stable (x : Int32) : Opp 109 184 [.int x] := by
  intro d T I π ρ τ ft sv θ M N hO hC hM
  have hV := hC.1
  have hT := hM.1.1
  have hW := hO.1.1
  have w0 := hW.1
  have w1 := hW.2.1
  have h63 := fun d Q => k63 (d := d) (Q := Q) hV hW x
  have h160 := fun d Q => k160 (d := d) (Q := Q) hT hW x
  by_cases b : sw_ib x (T 1)
  case neg =>
    have b := eq_false b
    refine Res_id hO hC hM (-1000001) (fun Q => ?_) (fun Q => ?_)
    · rw [c109]
      simp (disch := omega) only [s109_0, s109_1, s109_4, s109_5, s109_8, s109_11, s109_13, z_lt_t, z_lt_f, z_le_t, z_le_f, z_lt0, z_ge0, z_cl, z_in, z_add, z_eq_f, z_ne0, z_00, z_10, z_01, z_11, z_neg1, z_nI_NONE, z_div, z_rem, z_rem2, sw_pu_s, sw_pu_n, true_and, and_true, true_or, or_true, if_true, if_false, not_true_eq_false, not_false_eq_true, h63, b]
    · rw [c184]
      simp (disch := omega) only [s184_0, s184_1, s184_2, s184_5, s184_8, s184_10, z_lt_t, z_lt_f, z_le_t, z_le_f, z_lt0, z_ge0, z_cl, z_in, z_add, z_eq_f, z_ne0, z_00, z_10, z_01, z_11, z_neg1, z_nI_NONE, z_div, z_rem, z_rem2, sw_pu_s, sw_pu_n, true_and, and_true, true_or, or_true, if_true, if_false, not_true_eq_false, not_false_eq_true, h160, b]
  have b1 := eq_true b
  simp only [b1, if_true] at h63 h160
  obtain ⟨k, hk, rfl⟩ := sw_ib_of b (by omega)
  obtain ⟨M1, p1, p2, p3, p4, p5, p6⟩ := k80 (d := d + 14) hV hW
  have e0 : T = lieC T (fun r => T (37 + r)) := by
    funext i
    unfold lieC
    split
    · dsimp only
      rw [show 37 + (i - 37) = i by omega]
    · rfl
  have hL0 := cpT_IsM (b := 1107) hT
  rw [e0] at hL0
  obtain ⟨N1, n1, n2, n3⟩ := k184P (d := d + 19) (k := k) 4 0 _ (cpT N 0 1107 41) (by omega) (cpT_keep hT (by omega)) hL0 (fun r hr => absurd hr (Nat.not_lt_zero r))
  obtain ⟨N2, n4, n5⟩ := k184L (d := d + 15) hW hk 16 (fun _ => 0) (fun _ => 4) N1 sw_U sw_U (by rw [rem_16]; omega) n1 (JC_0 T) (fun _ _ => by omega)
  have h63' := fun d Q => k63 (d := d) (Q := Q) p1 hW (nI k)
  have h183 := fun d Q => k183 (d := d) (Q := Q) n1 hW (JC_0 T) (fun _ _ => by omega)
  have p3k := p3 k (by omega)
  refine Res_scr hO hC hM (bn (stF T 16 (fun _ => 0) (fun _ => 4) k)) p5 (sM.cp.tr (n2.tr n4).sM) (fun Q => ?_) (fun Q => ?_)
  · rw [c109]
    simp (disch := omega) only [s109_0, s109_1, s109_4, s109_5, s109_8, s109_11, s109_13, s109_14, s109_15, s109_18, s109_19, s109_22, s109_25, s109_26, s109_29, s109_30, s109_33, z_lt_t, z_lt_f, z_le_t, z_le_f, z_lt0, z_ge0, z_cl, z_in, z_add, z_eq_f, z_ne0, z_00, z_10, z_01, z_11, z_neg1, z_nI_NONE, z_div, z_rem, z_rem2, sw_pu_s, sw_pu_n, true_and, and_true, true_or, or_true, if_true, if_false, not_true_eq_false, not_false_eq_true, h63, p6, c78, s78_0, s78_1, s78_4, s78_5, s78_8, s78_11, s78_12, s78_15, s78_16, s78_17, s78_20, s78_22, p2, kd34, h63', z_ibt, p3k]
  · rw [c184]
    simp (disch := omega) only [s184_0, s184_1, s184_2, s184_5, s184_8, s184_10, s184_11, s184_12, s184_15, s184_16, z_lt_t, z_lt_f, z_le_t, z_le_f, z_lt0, z_ge0, z_cl, z_in, z_add, z_eq_f, z_ne0, z_00, z_10, z_01, z_11, z_neg1, z_nI_NONE, z_div, z_rem, z_rem2, sw_pu_s, sw_pu_n, true_and, and_true, true_or, or_true, if_true, if_false, not_true_eq_false, not_false_eq_true, h160, k177]
    rw [n3, ← n5 Q]
    simp (disch := omega) only [s184_46, s184_47, s184_50, z_lt_t, z_lt_f, z_le_t, z_le_f, z_lt0, z_ge0, z_cl, z_in, z_add, z_eq_f, z_ne0, z_00, z_10, z_01, z_11, z_neg1, z_nI_NONE, z_div, z_rem, z_rem2, sw_pu_s, sw_pu_n, true_and, and_true, true_or, or_true, if_true, if_false, not_true_eq_false, not_false_eq_true, h183]
end STC
