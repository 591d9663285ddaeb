section FIU
variable {d n : Nat} {T : Tw} {ρ : Rw} {h : Nat → Int32} {M N : sw_Mem} {Q : Option Value → sw_Mem → Prop}
theorem WF_upk (hW : WF T) {r k : Nat} (hr : r < T 1) (h1 : 1 ≤ k) (h5 : k ≤ 5) : WF (upT T (21 + r) k) := by
  obtain ⟨w0, w1, w2, w3, w4, wr, wb, wi⟩ := hW
  have e : ∀ i, i < 21 ∨ 25 ≤ i → upT T (21 + r) k i = T i := fun i hi => upT_n _ _ (by omega)
  refine ⟨by rw [e _ (by omega)]; exact w0, by rw [e _ (by omega)]; exact w1, by rw [e _ (by omega)]; exact w2, by rw [e _ (by omega)]; exact w3, by rw [e _ (by omega)]; exact w4, fun q hq => ?_, fun b hb => ?_, fun q hq p hp => ?_⟩
  · rw [e _ (by omega)] at hq
    obtain ⟨y1, y2, y3, y4, y5, y6⟩ := wr q hq
    rw [e (25 + q) (by omega), e (29 + q) (by omega), e (33 + q) (by omega), e (37 + q) (by omega), e 0 (by omega)]
    by_cases c : q = r
    · subst c
      rw [upT_s]
      exact ⟨h5, h1, y3, y4, y5, y6⟩
    · rw [upT_n _ _ (by omega)]
      exact ⟨y1, y2, y3, y4, y5, y6⟩
  · rw [e _ (by omega)] at hb
    rw [e (5 + b) (by omega), e (9 + b) (by omega), e (13 + b) (by omega)]
    exact wb b hb
  · rw [e _ (by omega)] at hq hp
    rw [e (37 + q) (by omega), e (37 + p) (by omega)]
    exact wi q hq p hp
theorem WF_upr (hW : WF T) {r k : Nat} (hr : r < T 1) (h9 : k ≤ 9) : WF (upT T (25 + r) k) := by
  obtain ⟨w0, w1, w2, w3, w4, wr, wb, wi⟩ := hW
  have e : ∀ i, i < 25 ∨ 29 ≤ i → upT T (25 + r) k i = T i := fun i hi => upT_n _ _ (by omega)
  refine ⟨by rw [e _ (by omega)]; exact w0, by rw [e _ (by omega)]; exact w1, by rw [e _ (by omega)]; exact w2, by rw [e _ (by omega)]; exact w3, by rw [e _ (by omega)]; exact w4, fun q hq => ?_, fun b hb => ?_, fun q hq p hp => ?_⟩
  · rw [e _ (by omega)] at hq
    obtain ⟨y1, y2, y3, y4, y5, y6⟩ := wr q hq
    rw [e (21 + q) (by omega), e (29 + q) (by omega), e (33 + q) (by omega), e (37 + q) (by omega), e 0 (by omega)]
    by_cases c : q = r
    · subst c
      rw [upT_s]
      exact ⟨y1, y2, h9, y4, y5, y6⟩
    · rw [upT_n _ _ (by omega)]
      exact ⟨y1, y2, y3, y4, y5, y6⟩
  · rw [e _ (by omega)] at hb
    rw [e (5 + b) (by omega), e (9 + b) (by omega), e (13 + b) (by omega)]
    exact wb b hb
  · rw [e _ (by omega)] at hq hp
    rw [e (37 + q) (by omega), e (37 + p) (by omega)]
    exact wi q hq p hp
theorem FB_up {F i k : Nat} (hF : FB T F) (hi : 21 ≤ i) (w0 : T 0 ≤ 4) : FB (upT T i k) F := by
  intro b hb
  rw [upT_n _ _ (by omega)] at hb
  rw [upT_n _ _ (by omega)]
  exact hF b hb
theorem IsV_ki {v : Nat} (hV : IsV M v T) (h0 : T 0 ≤ 4) (h1 : T 1 ≤ 4) {r : Nat} (hr : r < T 1) (x : Nat) : IsV (sw_up M (v + 4) r (nI x)) v (upT T (21 + r) x) := by
  obtain ⟨hv, ⟨g0, g1, g2, g3, g4⟩, hR, hB⟩ := hV
  refine ⟨hv, ?_, fun q hq => ?_, fun b hb => ?_⟩
  · simp (disch := omega) only [z_up_n, upT_n, g0, g1, g2, g3, g4, and_self]
  · rw [upT_n _ _ (by omega)] at hq
    obtain ⟨r1, r2, r3, r4, r5⟩ := hR q hq
    simp (disch := omega) only [z_up_n, upT_n, r1, r2, r3, r5, true_and, and_true]
    by_cases h : q = r
    · subst h
      rw [z_up_s, upT_s]
    · rw [z_up_j _ _ h, upT_n _ _ (by omega), r4]
  · rw [upT_n _ _ (by omega)] at hb
    obtain ⟨b1, b2, b3, b6⟩ := hB b hb
    simp (disch := omega) only [z_up_n, z_up_j, upT_n, b1, b2, b3, b6, and_self]
theorem IsV_ro {v : Nat} (hV : IsV M v T) (h0 : T 0 ≤ 4) (h1 : T 1 ≤ 4) {r : Nat} (hr : r < T 1) (x : Nat) : IsV (sw_up M (v + 1) r (nI x)) v (upT T (25 + r) x) := by
  obtain ⟨hv, ⟨g0, g1, g2, g3, g4⟩, hR, hB⟩ := hV
  refine ⟨hv, ?_, fun q hq => ?_, fun b hb => ?_⟩
  · simp (disch := omega) only [z_up_n, upT_n, g0, g1, g2, g3, g4, and_self]
  · rw [upT_n _ _ (by omega)] at hq
    obtain ⟨r1, r2, r3, r4, r5⟩ := hR q hq
    simp (disch := omega) only [z_up_n, upT_n, r2, r3, r4, r5, true_and, and_true]
    by_cases h : q = r
    · subst h
      rw [z_up_s, upT_s]
    · rw [z_up_j _ _ h, upT_n _ _ (by omega), r1]
  · rw [upT_n _ _ (by omega)] at hb
    obtain ⟨b1, b2, b3, b6⟩ := hB b hb
    simp (disch := omega) only [z_up_n, z_up_j, upT_n, b1, b2, b3, b6, and_self]
theorem k17L (hn : n ≤ 16) (hT : OKT T) {b s : Nat} (hb : b < T 0) (hs : s < T 1) : ∀ m k a (M : sw_Mem), k + m = 6 → 1 ≤ k → hC n h T M →
    ∃ M', sC M M' ∧ ∀ Q, sw_WP (d + 5) 17 20 [.ref 82, .ref 34, .int (nI b), .int (nI s), .int a, .int (nI k)] [] M Q = Q (some (.int (orb (fun k => ftB gsT h n 0 (upT (al T s b) (21 + s) k)) m k a))) M' := by
  have hW := hT.1
  have w0 := hW.1
  have w1 := hW.2.1
  have h9 := hT.2.2.1
  intro m
  induction m with
  | zero =>
    intro k a M hk h1 hh
    obtain rfl : k = 6 := by omega
    refine ⟨M, sC.rf, fun Q => ?_⟩
    rw [orb_0]
    refine (s17_20 ..).trans ?_
    simp (disch := omega) only [s17_0, s17_1, s17_2, s17_5, s17_6, s17_7, s17_9, s17_12, s17_13, s17_14, s17_15, s17_17, s17_18, s17_22, s17_23, s17_26, s17_27, s17_28, s17_29, s17_30, s17_33, s17_34, s17_37, s17_40, s17_41, s17_43, s17_44, s17_46, s17_47, s17_50, s17_53, s17_54, s17_56, s17_57, s17_60, s17_61, s17_62, s17_64, s17_67, s17_70, s17_72, z_lt_t, z_lt_f, z_le_t, z_le_f, z_lt0, z_ge0, z_cl, z_in, z_add, z_eq_f, z_ne0, z_00, z_10, z_01, z_11, z_neg1, z_nI_NONE, z_div, z_rem, z_rem2, sw_pu_s, sw_pu_n, true_and, and_true, true_or, or_true, if_true, if_false, not_true_eq_false, not_false_eq_true]
  | succ m ih =>
    intro k a M hk h1 hh
    obtain ⟨M1, a1, a2, a3⟩ := k19 (d := d + 2) hh.1 hW hs (show b < 4 by omega)
    have eA : ∀ i, i < 37 → al T s b i = T i := fun i hi => al_o T (by omega)
    have hV1 := IsV_ki a1 (by rw [eA _ (by omega)]; exact w0) (by rw [eA _ (by omega)]; exact w1) (r := s) (by rw [eA _ (by omega)]; exact hs) k
    have hW1 := WF_upk (WF_al hW (Or.inr hb)) (r := s) (k := k) (by rw [eA _ (by omega)]; exact hs) h1 (by omega)
    have hO1 : Off M (sw_up M1 87 s (nI k)) 83 := a2.up (by omega)
    have hH := hh.off hO1
    obtain ⟨M2, b1, b2⟩ := k15 (d := d) hn hV1 hW1 (F := 144 * T 4) (FB_up (fun c hc => by rw [eA _ (by omega)] at hc; rw [eA _ (by omega)]; exact hT.2.1 c hc) (by omega) (by rw [eA _ (by omega)]; exact w0)) (by omega) (by rw [upT_n _ _ (by omega), eA _ (by omega)]; omega) hH.2.1 hH.2.2
    obtain ⟨M3, c1, c2⟩ := ih (k + 1) (a ||| (if ftB gsT h n 0 (upT (al T s b) (21 + s) k) = true then nI 1 <<< (nI k &&& 31) else nI 0)) M2 (by omega) (by omega) (hH.off b1)
    refine ⟨M3, (sC.off (hO1.tr b1) (by omega)).tr c1, fun Q => ?_⟩
    rw [orb_s, ← c2 Q]
    refine (s17_20 ..).trans ?_
    cases e : ftB gsT h n 0 (upT (al T s b) (21 + s) k) <;> rw [e] at b2
    · rw [b1_f] at b2
      simp (disch := omega) only [s17_0, s17_1, s17_2, s17_5, s17_6, s17_7, s17_9, s17_12, s17_13, s17_14, s17_15, s17_17, s17_18, s17_22, s17_23, s17_26, s17_27, s17_28, s17_29, s17_30, s17_33, s17_34, s17_37, s17_40, s17_41, s17_43, s17_44, s17_46, s17_47, s17_50, s17_53, s17_54, s17_56, s17_57, s17_60, s17_61, s17_62, s17_64, s17_67, s17_70, s17_72, z_lt_t, z_lt_f, z_le_t, z_le_f, z_lt0, z_ge0, z_cl, z_in, z_add, z_eq_f, z_ne0, z_00, z_10, z_01, z_11, z_neg1, z_nI_NONE, z_div, z_rem, z_rem2, sw_pu_s, sw_pu_n, true_and, and_true, true_or, or_true, if_true, if_false, not_true_eq_false, not_false_eq_true, a3, b2, Bool.false_eq_true, sw_vk4 kd_v.1, sw_vn4 kd_v.1, kd_v.1]
    · rw [b1_t] at b2
      simp (disch := omega) only [s17_0, s17_1, s17_2, s17_5, s17_6, s17_7, s17_9, s17_12, s17_13, s17_14, s17_15, s17_17, s17_18, s17_22, s17_23, s17_26, s17_27, s17_28, s17_29, s17_30, s17_33, s17_34, s17_37, s17_40, s17_41, s17_43, s17_44, s17_46, s17_47, s17_50, s17_53, s17_54, s17_56, s17_57, s17_60, s17_61, s17_62, s17_64, s17_67, s17_70, s17_72, z_lt_t, z_lt_f, z_le_t, z_le_f, z_lt0, z_ge0, z_cl, z_in, z_add, z_eq_f, z_ne0, z_00, z_10, z_01, z_11, z_neg1, z_nI_NONE, z_div, z_rem, z_rem2, sw_pu_s, sw_pu_n, true_and, and_true, true_or, or_true, if_true, if_false, not_true_eq_false, not_false_eq_true, a3, b2, sw_vk4 kd_v.1, sw_vn4 kd_v.1, kd_v.1]
theorem k18L (hn : n ≤ 16) (hT : OKT T) {b s : Nat} (hb : b < T 0) (hs : s < T 1) : ∀ m k a (M : sw_Mem), k + m = 10 → hC n h T M →
    ∃ M', sC M M' ∧ ∀ Q, sw_WP (d + 5) 18 20 [.ref 82, .ref 34, .int (nI b), .int (nI s), .int a, .int (nI k)] [] M Q = Q (some (.int (orb (fun k => ftB gsT h n 0 (upT (al T s b) (25 + s) k)) m k a))) M' := by
  have hW := hT.1
  have w0 := hW.1
  have w1 := hW.2.1
  have h9 := hT.2.2.1
  intro m
  induction m with
  | zero =>
    intro k a M hk hh
    obtain rfl : k = 10 := by omega
    refine ⟨M, sC.rf, fun Q => ?_⟩
    rw [orb_0]
    refine (s18_20 ..).trans ?_
    simp (disch := omega) only [s18_0, s18_1, s18_2, s18_5, s18_6, s18_7, s18_9, s18_12, s18_13, s18_14, s18_15, s18_17, s18_18, s18_22, s18_24, s18_27, s18_28, s18_29, s18_30, s18_31, s18_34, s18_35, s18_38, s18_41, s18_42, s18_44, s18_45, s18_47, s18_48, s18_51, s18_54, s18_55, s18_57, s18_58, s18_61, s18_62, s18_63, s18_65, s18_68, s18_71, s18_73, z_lt_t, z_lt_f, z_le_t, z_le_f, z_lt0, z_ge0, z_cl, z_in, z_add, z_eq_f, z_ne0, z_00, z_10, z_01, z_11, z_neg1, z_nI_NONE, z_div, z_rem, z_rem2, sw_pu_s, sw_pu_n, true_and, and_true, true_or, or_true, if_true, if_false, not_true_eq_false, not_false_eq_true]
  | succ m ih =>
    intro k a M hk hh
    obtain ⟨M1, a1, a2, a3⟩ := k19 (d := d + 2) hh.1 hW hs (show b < 4 by omega)
    have eA : ∀ i, i < 37 → al T s b i = T i := fun i hi => al_o T (by omega)
    have hV1 := IsV_ro a1 (by rw [eA _ (by omega)]; exact w0) (by rw [eA _ (by omega)]; exact w1) (r := s) (by rw [eA _ (by omega)]; exact hs) k
    have hW1 := WF_upr (WF_al hW (Or.inr hb)) (r := s) (k := k) (by rw [eA _ (by omega)]; exact hs) (by omega)
    have hO1 : Off M (sw_up M1 84 s (nI k)) 83 := a2.up (by omega)
    have hH := hh.off hO1
    obtain ⟨M2, b1, b2⟩ := k15 (d := d) hn hV1 hW1 (F := 144 * T 4) (FB_up (fun c hc => by rw [eA _ (by omega)] at hc; rw [eA _ (by omega)]; exact hT.2.1 c hc) (by omega) (by rw [eA _ (by omega)]; exact w0)) (by omega) (by rw [upT_n _ _ (by omega), eA _ (by omega)]; omega) hH.2.1 hH.2.2
    obtain ⟨M3, c1, c2⟩ := ih (k + 1) (a ||| (if ftB gsT h n 0 (upT (al T s b) (25 + s) k) = true then nI 1 <<< (nI k &&& 31) else nI 0)) M2 (by omega) (hH.off b1)
    refine ⟨M3, (sC.off (hO1.tr b1) (by omega)).tr c1, fun Q => ?_⟩
    rw [orb_s, ← c2 Q]
    refine (s18_20 ..).trans ?_
    cases e : ftB gsT h n 0 (upT (al T s b) (25 + s) k) <;> rw [e] at b2
    · rw [b1_f] at b2
      simp (disch := omega) only [s18_0, s18_1, s18_2, s18_5, s18_6, s18_7, s18_9, s18_12, s18_13, s18_14, s18_15, s18_17, s18_18, s18_22, s18_24, s18_27, s18_28, s18_29, s18_30, s18_31, s18_34, s18_35, s18_38, s18_41, s18_42, s18_44, s18_45, s18_47, s18_48, s18_51, s18_54, s18_55, s18_57, s18_58, s18_61, s18_62, s18_63, s18_65, s18_68, s18_71, s18_73, z_lt_t, z_lt_f, z_le_t, z_le_f, z_lt0, z_ge0, z_cl, z_in, z_add, z_eq_f, z_ne0, z_00, z_10, z_01, z_11, z_neg1, z_nI_NONE, z_div, z_rem, z_rem2, sw_pu_s, sw_pu_n, true_and, and_true, true_or, or_true, if_true, if_false, not_true_eq_false, not_false_eq_true, a3, b2, Bool.false_eq_true, sw_vk1 kd_v.1, sw_vn1 kd_v.1, kd_v.1]
    · rw [b1_t] at b2
      simp (disch := omega) only [s18_0, s18_1, s18_2, s18_5, s18_6, s18_7, s18_9, s18_12, s18_13, s18_14, s18_15, s18_17, s18_18, s18_22, s18_24, s18_27, s18_28, s18_29, s18_30, s18_31, s18_34, s18_35, s18_38, s18_41, s18_42, s18_44, s18_45, s18_47, s18_48, s18_51, s18_54, s18_55, s18_57, s18_58, s18_61, s18_62, s18_63, s18_65, s18_68, s18_71, s18_73, z_lt_t, z_lt_f, z_le_t, z_le_f, z_lt0, z_ge0, z_cl, z_in, z_add, z_eq_f, z_ne0, z_00, z_10, z_01, z_11, z_neg1, z_nI_NONE, z_div, z_rem, z_rem2, sw_pu_s, sw_pu_n, true_and, and_true, true_or, or_true, if_true, if_false, not_true_eq_false, not_false_eq_true, a3, b2, sw_vk1 kd_v.1, sw_vn1 kd_v.1, kd_v.1]
/-- what is heard -/
theorem k14L (hR : CRw ρ M) {r i n : Nat} (hr : r < 8) (hi : i + n ≤ 40) (hn : n ≤ 16) : ∀ m j (M : sw_Mem), j + m = n → CRw ρ M → M 82 2 = nI n → (∀ q, q < j → M 90 q = ρ.2.2 r (i + q)) →
    ∃ M', (∀ k, k ≠ 90 → M' k = M k) ∧ (∀ q, q < n → M' 90 q = ρ.2.2 r (i + q)) ∧ ∀ Q, sw_WP (d + 1) 14 14 [.ref 82, .ref 12, .int (nI r), .int (nI i), .int (nI n), .int (nI j)] [] M Q = Q none M' := by
  intro m
  induction m with
  | zero =>
    intro j M hj hR h2 hh
    obtain rfl : j = n := by omega
    refine ⟨M, fun _ _ => rfl, hh, fun Q => ?_⟩
    refine (s14_14 ..).trans ?_
    simp (disch := omega) only [s14_0, s14_1, s14_3, s14_5, s14_8, s14_11, s14_12, s14_16, s14_17, s14_20, s14_23, s14_24, s14_27, s14_29, s14_30, s14_31, s14_32, s14_34, s14_35, s14_38, s14_39, s14_42, s14_45, z_lt_t, z_lt_f, z_le_t, z_le_f, z_lt0, z_ge0, z_cl, z_in, z_add, z_eq_f, z_ne0, z_00, z_10, z_01, z_11, z_neg1, z_nI_NONE, z_div, z_rem, z_rem2, sw_pu_s, sw_pu_n, true_and, and_true, true_or, or_true, if_true, if_false, not_true_eq_false, not_false_eq_true, h2]
  | succ m ih =>
    intro j M hj hR h2 hh
    have h47 := fun d Q => k47 (d := d) (Q := Q) hR hr (show i + j < 40 by omega)
    obtain ⟨M', a1, a2, a3⟩ := ih (j + 1) (sw_up M 90 j (ρ.2.2 r (i + j))) (by omega) (CRw_c hR (fun k _ _ => z_up_n _ _ (by omega))) (by rw [z_up_n _ _ (by omega)]; exact h2) (fun q hq => by
      by_cases e : q = j
      · subst e; rw [z_up_s]
      · rw [z_up_j _ _ e]; exact hh q (by omega))
    refine ⟨M', fun k hk => (a1 k hk).trans (z_up_n _ _ hk), a2, fun Q => ?_⟩
    rw [← a3 Q]
    refine (s14_14 ..).trans ?_
    simp (disch := omega) only [s14_0, s14_1, s14_3, s14_5, s14_8, s14_11, s14_12, s14_16, s14_17, s14_20, s14_23, s14_24, s14_27, s14_29, s14_30, s14_31, s14_32, s14_34, s14_35, s14_38, s14_39, s14_42, s14_45, z_lt_t, z_lt_f, z_le_t, z_le_f, z_lt0, z_ge0, z_cl, z_in, z_add, z_eq_f, z_ne0, z_00, z_10, z_01, z_11, z_neg1, z_nI_NONE, z_div, z_rem, z_rem2, sw_pu_s, sw_pu_n, true_and, and_true, true_or, or_true, if_true, if_false, not_true_eq_false, not_false_eq_true, h2, h47]
theorem k14 (hR : CRw ρ M) {r i n : Nat} (hr : r < 8) (hi : i + n ≤ 40) (hn : n ≤ 16) : ∃ M', sC M M' ∧ (∀ q, q < n → M' 90 q = ρ.2.2 r (i + q)) ∧ M' 82 2 = nI n ∧ ∀ Q, sw_Cal (d + 2) 14 [.ref 82, .ref 12, .int (nI r), .int (nI i), .int (nI n)] M Q = Q none M' := by
  obtain ⟨M', a1, a2, a3⟩ := k14L (d := d) hR hr hi hn n 0 (sw_up M 82 2 (nI n)) (by omega) (CRw_c hR (fun k _ _ => z_up_n _ _ (by omega))) (z_up_s _ _ _ _) (fun q hq => absurd hq (Nat.not_lt_zero q))
  refine ⟨M', fun k hk => (a1 k (by omega)).trans (z_up_n _ _ (by omega)), a2, (congrFun (a1 82 (by omega)) 2).trans (z_up_s _ _ _ _), fun Q => ?_⟩
  rw [c14, ← a3 Q]
  rcases Nat.lt_or_eq_of_le hn with q | q
  · simp (disch := omega) only [s14_0, s14_1, s14_3, s14_5, s14_8, s14_11, s14_12, z_lt_t, z_lt_f, z_le_t, z_le_f, z_lt0, z_ge0, z_cl, z_in, z_add, z_eq_f, z_ne0, z_00, z_10, z_01, z_11, z_neg1, z_nI_NONE, z_div, z_rem, z_rem2, sw_pu_s, sw_pu_n, true_and, and_true, true_or, or_true, if_true, if_false, not_true_eq_false, not_false_eq_true]
  · subst q
    simp (disch := omega) only [s14_0, s14_1, s14_3, s14_5, s14_8, s14_11, s14_12, z_lt_t, z_lt_f, z_le_t, z_le_f, z_lt0, z_ge0, z_cl, z_in, z_add, z_eq_f, z_ne0, z_00, z_10, z_01, z_11, z_neg1, z_nI_NONE, z_div, z_rem, z_rem2, sw_pu_s, sw_pu_n, true_and, and_true, true_or, or_true, if_true, if_false, not_true_eq_false, not_false_eq_true, ite_self]
end FIU
