section STB
variable {d : Nat} {T : Tw} {a c : Nat → Nat} {M N : sw_Mem} {Q : Option Value → sw_Mem → Prop}
def sW (M M' : sw_Mem) : Prop := ∀ k, k ≠ 104 → k ≠ 106 → M' k = M k
theorem cS_up {x y : Nat} (hS : cS T a c M) {M' : sw_Mem} (e : sW M M') {a' c' : Nat → Nat} (h1 : ∀ r, r < 4 → M' 104 r = nI (a' r)) (h2 : ∀ r, r < 4 → M' 106 r = bn (c' r)) : cS T a' c' M' :=
  ⟨IsV_c hS.1 (fun k _ _ => e k (by omega) (by omega)), by rw [e 91 (by omega) (by omega)]; exact hS.2.1, h1, h2⟩
theorem k83 (hS : cS T a c M) (hW : WF T) (hJ : JC T c) {r b : Nat} (hr : r < T 1) (hb : b < T 0) (hc : c r = 4) (ha : a r < 16) (hbit : bit (a r) b = 0) : ∃ M', cS T (upT a r (a r + 2 ^ b)) (cNx T c r b) M' ∧ sW M M' ∧ ∀ Q, sw_Cal (d + 3) 83 [.ref 91, .int (nI r), .int (nI b)] M Q = Q none M' := by
  have w0 := hW.1
  have w1 := hW.2.1
  have hor := bit_or ha (show b < 4 by omega)
  rw [if_neg (by omega)] at hor
  have e1 : ∀ r', r' < 4 → sw_up M 104 r (nI (a r + 2 ^ b)) 104 r' = nI (upT a r (a r + 2 ^ b) r') := by
    intro q hq
    by_cases e : q = r
    · subst e; rw [z_up_s, upT_s]
    · rw [z_up_j _ _ e, upT_n _ _ e]; exact hS.2.2.1 q hq
  have e2 : ∀ r', r' < 4 → sw_up M 104 r (nI (a r + 2 ^ b)) 106 r' = bn (c r') := by
    intro q hq
    rw [z_up_n _ _ (by omega)]; exact hS.2.2.2 q hq
  have hS1 : cS T (upT a r (a r + 2 ^ b)) c (sw_up M 104 r (nI (a r + 2 ^ b))) := cS_up (x := 0) (y := 0) hS (fun k h1 _ => z_up_n _ _ h1) e1 e2
  have h84 := fun d Q => k84 (d := d) (Q := Q) hS1 hW hJ (show b < 4 by omega)
  have w1' : lieC T c 1 ≤ 4 := by rw [lieC_o _ _ (by omega)]; exact w1
  have hAr := hS.2.2.1 r (by omega)
  have h5 := hS1.2.1
  have up1 : ∀ q x, q < 4 → x ≤ 4 → ∀ (c : Nat → Nat) (M1 : sw_Mem), cS T (upT a r (a r + 2 ^ b)) c M1 → sW M M1 → cS T (upT a r (a r + 2 ^ b)) (upT c q x) (sw_up M1 106 q (bn x)) ∧ sW M (sw_up M1 106 q (bn x)) := by
    intro q x hq hx c M1 h1 h2
    refine ⟨cS_up (x := 0) (y := 0) h1 (fun k _ h => z_up_n _ _ h) (fun p hp => ?_) (fun p hp => ?_), fun k h1 h => (z_up_n _ _ h).trans (h2 k h1 h)⟩
    · rw [z_up_n _ _ (by omega)]; exact h1.2.2.1 p hp
    · by_cases e : p = q
      · subst e; rw [z_up_s, upT_s]
      · rw [z_up_j _ _ e, upT_n _ _ e]; exact h1.2.2.2 p hp
  have hs0 : sW M (sw_up M 104 r (nI (a r + 2 ^ b))) := fun k h1 _ => z_up_n _ _ h1
  unfold cNx
  by_cases h : onB (lieC T c) b = 4
  · rw [if_pos h]
    obtain ⟨u1, u2⟩ := up1 r b (by omega) (by omega) c _ hS1 hs0
    refine ⟨_, u1, u2, fun Q => ?_⟩
    rw [h, bn_4] at h84
    rw [c83, bn_n (by omega)]
    simp (disch := omega) only [s83_0, s83_1, s83_4, s83_5, s83_6, s83_7, s83_8, s83_9, s83_10, s83_11, s83_12, s83_13, s83_14, s83_17, s83_18, s83_19, s83_21, s83_24, s83_25, s83_28, s83_29, s83_30, s83_31, s83_34, s83_35, s83_38, s83_39, s83_40, s83_43, s83_44, s83_47, s83_48, s83_49, s83_52, s83_55, s83_56, s83_59, s83_60, s83_62, s83_63, s83_64, s83_67, s83_68, s83_69, s83_70, z_lt_t, z_lt_f, z_le_t, z_le_f, z_lt0, z_ge0, z_cl, z_in, z_add, z_eq_f, z_ne0, z_00, z_10, z_01, z_11, z_neg1, z_nI_NONE, z_div, z_rem, z_rem2, sw_pu_s, sw_pu_n, true_and, and_true, true_or, or_true, if_true, if_false, not_true_eq_false, not_false_eq_true, hAr, hor, h84]
  · rw [if_neg h]
    have hon := (onB_lt (lieC T c) b).resolve_left h
    rw [lieC_o _ _ (by omega)] at hon
    rw [bn_n h] at h84
    have g1 := fun d Q => k69 (d := d) (Q := Q) hS1.1 hW hr hb
    have g2 := fun d Q => k69 (d := d) (Q := Q) hS1.1 hW hon hb
    have l1 := grT_le hW hr hb
    have l2 := grT_le hW hon hb
    by_cases h2 : grT T (onB (lieC T c) b) b < grT T r b
    · rw [if_pos h2]
      obtain ⟨u1, u2⟩ := up1 (onB (lieC T c) b) 4 (by omega) (by omega) c _ hS1 hs0
      obtain ⟨u3, u4⟩ := up1 r b (by omega) (by omega) _ _ u1 u2
      refine ⟨_, u3, u4, fun Q => ?_⟩
      rw [c83, bn_n (show b ≠ 4 by omega), bn_4]
      simp (disch := omega) only [s83_0, s83_1, s83_4, s83_5, s83_6, s83_7, s83_8, s83_9, s83_10, s83_11, s83_12, s83_13, s83_14, s83_17, s83_18, s83_19, s83_21, s83_24, s83_25, s83_28, s83_29, s83_30, s83_31, s83_34, s83_35, s83_38, s83_39, s83_40, s83_43, s83_44, s83_47, s83_48, s83_49, s83_52, s83_55, s83_56, s83_59, s83_60, s83_62, s83_63, s83_64, s83_67, s83_68, s83_69, s83_70, z_lt_t, z_lt_f, z_le_t, z_le_f, z_lt0, z_ge0, z_cl, z_in, z_add, z_eq_f, z_ne0, z_00, z_10, z_01, z_11, z_neg1, z_nI_NONE, z_div, z_rem, z_rem2, sw_pu_s, sw_pu_n, true_and, and_true, true_or, or_true, if_true, if_false, not_true_eq_false, not_false_eq_true, hAr, hor, h84, h5, g1, g2, kd34]
    · rw [if_neg h2]
      refine ⟨_, hS1, hs0, fun Q => ?_⟩
      rw [c83]
      simp (disch := omega) only [s83_0, s83_1, s83_4, s83_5, s83_6, s83_7, s83_8, s83_9, s83_10, s83_11, s83_12, s83_13, s83_14, s83_17, s83_18, s83_19, s83_21, s83_24, s83_25, s83_28, s83_29, s83_30, s83_31, s83_34, s83_35, s83_38, s83_39, s83_40, s83_43, s83_44, s83_47, s83_48, s83_49, s83_52, s83_55, s83_56, s83_59, s83_60, s83_62, s83_63, s83_64, s83_67, s83_68, s83_69, s83_70, z_lt_t, z_lt_f, z_le_t, z_le_f, z_lt0, z_ge0, z_cl, z_in, z_add, z_eq_f, z_ne0, z_00, z_10, z_01, z_11, z_neg1, z_nI_NONE, z_div, z_rem, z_rem2, sw_pu_s, sw_pu_n, true_and, and_true, true_or, or_true, if_true, if_false, not_true_eq_false, not_false_eq_true, hAr, hor, h84, h5, g1, g2, kd34]
theorem k80L (hW : WF T) : ∀ n i (a c : Nat → Nat) (M : sw_Mem) (x3 : Value), i + n = 16 → rem a ≤ n → cS T a c M → JC T c → (∀ r, r < 4 → a r < 16) → ∃ M' a', cS T a' (stF T n a c) M' ∧ JC T (stF T n a c) ∧ sW M M' ∧ ∀ Q, sw_WP (d + 4) 80 24 [.ref 91, .ref 34, .int (nI i), x3] [] M Q = Q none M' := by
  have w0 := hW.1
  have w1 := hW.2.1
  intro n
  induction n with
  | zero =>
    intro i a c M x3 hi hr hS hJ ha
    obtain rfl : i = 16 := by omega
    refine ⟨M, a, hS, hJ, fun _ _ _ => rfl, fun Q => ?_⟩
    refine (s80_24 ..).trans ?_
    simp (disch := omega) only [s80_0, s80_1, s80_2, s80_5, s80_6, s80_9, s80_10, s80_13, s80_14, s80_17, s80_19, s80_22, s80_23, s80_25, s80_27, s80_30, s80_31, s80_34, s80_35, s80_36, s80_38, s80_41, s80_42, s80_43, s80_44, s80_45, s80_46, s80_49, s80_52, s80_55, s80_58, z_lt_t, z_lt_f, z_le_t, z_le_f, z_lt0, z_ge0, z_cl, z_in, z_add, z_eq_f, z_ne0, z_00, z_10, z_01, z_11, z_neg1, z_nI_NONE, z_div, z_rem, z_rem2, sw_pu_s, sw_pu_n, true_and, and_true, true_or, or_true, if_true, if_false, not_true_eq_false, not_false_eq_true]
  | succ n ih =>
    intro i a c M x3 hi hr hS hJ ha
    have h81 := fun d Q => k81 (d := d) (Q := Q) hS hW hJ ha
    rcases naB_p T a c with e | ⟨h1, h2, h3⟩
    · rw [stF_e _ e]
      refine ⟨M, a, hS, hJ, fun _ _ _ => rfl, fun Q => ?_⟩
      rw [e, bn_4] at h81
      refine (s80_24 ..).trans ?_
      simp (disch := omega) only [s80_0, s80_1, s80_2, s80_5, s80_6, s80_9, s80_10, s80_13, s80_14, s80_17, s80_19, s80_22, s80_23, s80_25, s80_27, s80_30, s80_31, s80_34, s80_35, s80_36, s80_38, s80_41, s80_42, s80_43, s80_44, s80_45, s80_46, s80_49, s80_52, s80_55, s80_58, z_lt_t, z_lt_f, z_le_t, z_le_f, z_lt0, z_ge0, z_cl, z_in, z_add, z_eq_f, z_ne0, z_00, z_10, z_01, z_11, z_neg1, z_nI_NONE, z_div, z_rem, z_rem2, sw_pu_s, sw_pu_n, true_and, and_true, true_or, or_true, if_true, if_false, not_true_eq_false, not_false_eq_true, h81]
    · have hne : naB T a c ≠ 4 := by omega
      rw [stF_s _ hne]
      obtain ⟨q1, q2⟩ := (wn_p T (a (naB T a c)) (naB T a c)).resolve_left h3
      have hl := ha (naB T a c) (by omega)
      have h82 := fun d Q => k82 (d := d) (Q := Q) hS hW h1 hl
      rw [bn_n h3] at h82
      rw [bn_n hne] at h81
      obtain ⟨M1, b1', b2, b3⟩ := k83 (d := d + 1) hS hW hJ h1 q1 h2 hl q2
      have hrm := rem_s (r := naB T a c) (by omega) hl (show wn T (a (naB T a c)) (naB T a c) < 4 by omega) q2
      obtain ⟨M2, a', c1, c2, c3, c4⟩ := ih (i + 1) _ _ M1 (.int (nI (naB T a c))) (by omega) (by omega) b1' (JC_nx w0 w1 hJ h1 q1 h2) (a_ok ha (by omega) (by omega) q2)
      refine ⟨M2, a', c1, c2, fun k k1 k2 => (c3 k k1 k2).trans (b2 k k1 k2), fun Q => ?_⟩
      rw [← c4 Q]
      refine (s80_24 ..).trans ?_
      simp (disch := omega) only [s80_0, s80_1, s80_2, s80_5, s80_6, s80_9, s80_10, s80_13, s80_14, s80_17, s80_19, s80_22, s80_23, s80_25, s80_27, s80_30, s80_31, s80_34, s80_35, s80_36, s80_38, s80_41, s80_42, s80_43, s80_44, s80_45, s80_46, s80_49, s80_52, s80_55, s80_58, z_lt_t, z_lt_f, z_le_t, z_le_f, z_lt0, z_ge0, z_cl, z_in, z_add, z_eq_f, z_ne0, z_00, z_10, z_01, z_11, z_neg1, z_nI_NONE, z_div, z_rem, z_rem2, sw_pu_s, sw_pu_n, true_and, and_true, true_or, or_true, if_true, if_false, not_true_eq_false, not_false_eq_true, h81, h82, b3]
theorem JC_0 (T : Tw) : JC T (fun _ => 4) := ⟨fun _ _ => Or.inl rfl, fun _ _ _ _ _ h => absurd rfl h⟩
theorem rem_16 : rem (fun _ => 0) = 16 := by decide
theorem k80 (hV : IsV M 34 T) (hW : WF T) : ∃ M', IsV M' 34 T ∧ M' 91 5 = nI 34 ∧ (∀ r, r < 4 → M' 106 r = bn (stF T 16 (fun _ => 0) (fun _ => 4) r)) ∧ JC T (stF T 16 (fun _ => 0) (fun _ => 4)) ∧ sC M M' ∧ ∀ Q, sw_Cal (d + 5) 80 [.ref 91, .ref 34] M Q = Q none M' := by
  have f1 := fun d M Q => k222 (d := d) (M := M) (Q := Q) kd_w.1 (nI 0)
  have f2 := fun d M Q => k222 (d := d) (M := M) (Q := Q) kd_w.2.1 (-1000000)
  rw [kd_w.2.2.1] at f1
  rw [kd_w.2.2.2.1] at f2
  have hS : cS T (fun _ => 0) (fun _ => 4) (sw_set (sw_set (sw_up M 91 5 (nI 34)) 104 (fun j => if j < 4 then nI 0 else sw_up M 91 5 (nI 34) 104 j)) 106 (fun j => if j < 4 then -1000000 else sw_set (sw_up M 91 5 (nI 34)) 104 (fun j => if j < 4 then nI 0 else sw_up M 91 5 (nI 34) 104 j) 106 j)) := by
    refine ⟨IsV_c hV (fun k _ _ => ?_), ?_, fun r hr => ?_, fun r hr => ?_⟩
    · rw [z_set_n _ _ (by omega), z_set_n _ _ (by omega), z_up_n _ _ (by omega)]
    · rw [z_set_n _ _ (by omega), z_set_n _ _ (by omega), z_up_s]
    · rw [z_set_n _ _ (by omega), z_set_s, if_pos hr]
    · rw [z_set_s, if_pos hr, bn_4]
  obtain ⟨M', a', c1, c2, c3, c4⟩ := k80L (d := d) hW 16 0 _ _ _ sw_U (by omega) (by rw [rem_16]; omega) hS (JC_0 T) (fun _ _ => by omega)
  refine ⟨M', c1.1, c1.2.1, c1.2.2.2, c2, fun k hk => ?_, fun Q => ?_⟩
  · rw [c3 k (by omega) (by omega), z_set_n _ _ (by omega), z_set_n _ _ (by omega), z_up_n _ _ (by omega)]
  · rw [← c4 Q, c80]
    simp (disch := omega) only [s80_0, s80_1, s80_2, s80_5, s80_6, s80_9, s80_10, s80_13, s80_14, s80_17, s80_19, s80_22, s80_23, z_lt_t, z_lt_f, z_le_t, z_le_f, z_lt0, z_ge0, z_cl, z_in, z_add, z_eq_f, z_ne0, z_00, z_10, z_01, z_11, z_neg1, z_nI_NONE, z_div, z_rem, z_rem2, sw_pu_s, sw_pu_n, true_and, and_true, true_or, or_true, if_true, if_false, not_true_eq_false, not_false_eq_true, f1, f2]
end STB
