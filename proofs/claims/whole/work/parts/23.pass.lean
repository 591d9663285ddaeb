/-! a day, days -/
theorem WF_cong {T S : Tw} (hW : WF T) (h : ∀ i, ¬ (17 ≤ i ∧ i < 21) → S i = T i) : WF S := by
  obtain ⟨w0, w1, w2, w3, w4, wr, wb, wi⟩ := hW
  have e : ∀ i, i < 9 → S i = T i := fun i hi => h i (by omega)
  refine ⟨by rw [e _ (by omega)]; exact w0, by rw [e _ (by omega)]; exact w1, by rw [e _ (by omega)]; exact w2, by rw [e _ (by omega)]; exact w3, by rw [e _ (by omega)]; exact w4, fun r hr => ?_, fun b hb => ?_, fun r hr q hq => ?_⟩
  · rw [e _ (by omega)] at hr
    rw [h (21 + r) (by omega), h (25 + r) (by omega), h (29 + r) (by omega), h (33 + r) (by omega), h (37 + r) (by omega), e 0 (by omega)]
    exact wr r hr
  · rw [e _ (by omega)] at hb
    rw [h (5 + b) (by omega), h (9 + b) (by omega), h (13 + b) (by omega)]
    exact wb b hb
  · rw [e _ (by omega)] at hr hq
    rw [h (37 + r) (by omega), h (37 + q) (by omega)]
    exact wi r hr q hq
theorem WF_day {T : Tw} (hW : WF T) {x : Nat} (hx : x ≤ 2000) : WF (upT T 4 x) := by
  obtain ⟨w0, w1, w2, w3, w4, wr, wb, wi⟩ := hW
  have h : ∀ i, i ≠ 4 → upT T 4 x i = T i := fun i hi => upT_n _ _ hi
  refine ⟨by rw [h _ (by omega)]; exact w0, by rw [h _ (by omega)]; exact w1, by rw [h _ (by omega)]; exact w2, by rw [h _ (by omega)]; exact w3, by rw [upT_s]; exact hx, fun r hr => ?_, fun b hb => ?_, fun r hr q hq => ?_⟩
  · rw [h _ (by omega)] at hr
    rw [h (21 + r) (by omega), h (25 + r) (by omega), h (29 + r) (by omega), h (33 + r) (by omega), h (37 + r) (by omega), h 0 (by omega)]
    exact wr r hr
  · rw [h _ (by omega)] at hb
    rw [h (5 + b) (by omega), h (9 + b) (by omega), h (13 + b) (by omega)]
    exact wb b hb
  · rw [h _ (by omega)] at hr hq
    rw [h (37 + r) (by omega), h (37 + q) (by omega)]
    exact wi r hr q hq
def gsF (T : Tw) : Nat → Nat → Nat
  | 0, _ => 0
  | n + 1, r => gnT T r + gsF T n (r + 1)
def gsT (T : Tw) : Nat := gsF T (T 1) 0
def psT (T : Tw) : Tw := upT (pf T (T 1)) 4 (T 4 + 1)
theorem gsF_s (T : Tw) (n r : Nat) : gsF T (n + 1) r = gnT T r + gsF T n (r + 1) := rfl
theorem gnT_le {T : Tw} (hW : WF T) {r : Nat} (hr : r < T 1) : gnT T r ≤ 36 := by
  unfold gnT
  split
  · omega
  · rename_i h
    have := (hW.2.2.2.2.2.1 r hr).2.2.2.2.2
    exact grT_le hW hr (by omega)
theorem gsF_le {T : Tw} (hW : WF T) : ∀ n r, r + n ≤ T 1 → gsF T n r ≤ 36 * n := by
  intro n
  induction n with
  | zero => intro r _; exact Nat.le_refl _
  | succ n ih =>
    intro r h
    have := ih (r + 1) (by omega)
    have := gnT_le hW (show r < T 1 by omega)
    rw [gsF_s]
    omega
theorem gsT_le {T : Tw} (hW : WF T) : gsT T ≤ 144 := by
  have := gsF_le hW (T 1) 0 (by omega)
  have := hW.2.1
  unfold gsT
  omega
/-- flour at most F -/
def FB (T : Tw) (F : Nat) : Prop := ∀ b, b < T 0 → T (17 + b) ≤ F
theorem FB_pf {T : Tw} (hW : WF T) {F : Nat} (h : FB T F) {n : Nat} (hn : n ≤ T 1) : FB (pf T n) (F + 36) := by
  intro b hb
  rw [pf_o _ _ (by omega) (by omega) (by omega)] at hb
  have hw0 := hW.1
  rw [pf_fl _ _ (by omega)]
  have h1 := h b hb
  have key : ∀ n, n ≤ T 1 → (if wh T b n < 4 then grT T (wh T b n) b else 0) ≤ 36 := by
    intro n
    induction n with
    | zero => intro _; exact Nat.zero_le _
    | succ n ih =>
      intro hn
      rw [wh_s]
      by_cases e : T (37 + n) = b
      · rw [if_pos e]
        split
        · exact grT_le hW (by omega) hb
        · omega
      · rw [if_neg e]
        exact ih (by omega)
  have := key n hn
  omega
section PAS
variable {d v : Nat} {M : sw_Mem} {T : Tw} {Q : Option Value → sw_Mem → Prop}
def Off (M M' : sw_Mem) (v : Nat) : Prop := ∀ k, k < v ∨ v + 7 ≤ k → M' k = M k
theorem Off.rf : Off M M v := fun _ _ => rfl
theorem Off.tr {M1 M2 : sw_Mem} (h : Off M M1 v) (h2 : Off M1 M2 v) : Off M M2 v := fun k hk => (h2 k hk).trans (h k hk)
theorem Off.up {M1 : sw_Mem} (h : Off M M1 v) {a j : Nat} {x : Int32} (ha : v ≤ a ∧ a < v + 7) : Off M (sw_up M1 a j x) v := fun k hk => (z_up_n _ _ (by omega)).trans (h k hk)
theorem Off.set {M1 : sw_Mem} (h : Off M M1 v) {a : Nat} {f : Nat → Int32} (ha : v ≤ a ∧ a < v + 7) : Off M (sw_set M1 a f) v := fun k hk => (z_set_n _ _ (by omega)).trans (h k hk)
set_option maxHeartbeats 2000000 in
theorem k72L (hW : WF T) {F : Nat} (hF : FB T F) (hFF : F ≤ 1000000) : ∀ n r acc (x3 x4 : Value) (M : sw_Mem), r + n = T 1 → acc ≤ 36 * r → IsV M v (pf T r) →
    ∃ M', IsV M' v (psT T) ∧ Off M M' v ∧ ∀ Q, sw_WP (d + 3) 72 4 [.ref v, .int (nI acc), .int (nI r), x3, x4] [] M Q = Q (some (.int (nI (acc + gsF T n r)))) M' := by
  have w0 := hW.1
  have w1 := hW.2.1
  have w4 := hW.2.2.2.2.1
  intro n
  induction n with
  | zero =>
    intro r acc x3 x4 M h hacc hV
    obtain rfl : r = T 1 := by omega
    have hV1 := IsV_day hV (by rw [pf_o _ _ (by omega) (by omega) (by omega)]; exact w0) (by rw [pf_o _ _ (by omega) (by omega) (by omega)]; exact w1) (T 4 + 1)
    refine ⟨sw_up M v 2 (nI (T 4 + 1)), hV1, Off.rf.up (by omega), fun Q => ?_⟩
    obtain ⟨hv, ⟨-, -, g2, -, g4⟩, -, -⟩ := hV
    rw [pf_o _ _ (by omega) (by omega) (by omega)] at g2 g4
    rw [s72_4]
    simp (disch := omega) only [s72_0, s72_1, s72_2, s72_3, s72_5, s72_6, s72_9, s72_12, s72_13, s72_16, s72_17, s72_18, s72_19, s72_20, s72_22, s72_25, s72_26, s72_27, s72_28, s72_31, s72_33, s72_34, s72_37, s72_38, s72_39, s72_40, s72_42, s72_43, s72_44, s72_45, s72_47, s72_48, s72_49, s72_50, s72_51, s72_52, s72_55, s72_58, s72_61, s72_62, s72_63, s72_66, s72_67, s72_68, s72_71, s72_72, z_lt_t, z_lt_f, z_le_t, z_le_f, z_lt0, z_ge0, z_cl, z_in, z_add, z_eq_f, z_ne0, z_00, z_10, z_01, z_11, z_neg1, z_nI_NONE, z_div, z_rem, z_rem2, sw_pu_s, sw_pu_n, true_and, and_true, true_or, or_true, if_true, if_false, not_true_eq_false, not_false_eq_true, g2, g4, gsF, Nat.add_zero]
  | succ n ih =>
    intro r acc x3 x4 M h hacc hV
    have hr : r < T 1 := by omega
    have hWr := WF_pf hW r
    have p1 : pf T r 1 = T 1 := pf_o _ _ (by omega) (by omega) (by omega)
    have p0 : pf T r 0 = T 0 := pf_o _ _ (by omega) (by omega) (by omega)
    have hcst := cst_pf hW hr
    have hV' := hV
    obtain ⟨hv, ⟨-, -, g2, -, g4⟩, hR, hB⟩ := hV'
    rw [p1] at g4
    obtain ⟨r1, r2, r3, r4, r5⟩ := hR r (by omega)
    rw [pf_lie] at r5
    have y6 := (hW.2.2.2.2.2.1 r hr).2.2.2.2.2
    unfold cst at hcst
    rw [pf_lie] at hcst
    by_cases h4 : T (37 + r) = 4
    · rw [if_pos h4] at hcst
      have hg : gnT T r = 0 := by unfold gnT; rw [if_pos h4]
      obtain ⟨M', a1, a2, a3⟩ := ih (r + 1) acc (.int (-1000000)) x4 M (by omega) (by omega) (by rw [← hcst]; exact hV)
      refine ⟨M', a1, a2, fun Q => ?_⟩
      rw [gsF_s, hg, Nat.zero_add, ← a3 Q]
      refine (s72_4 ..).trans ?_
      simp (disch := omega) only [s72_0, s72_1, s72_2, s72_3, s72_5, s72_6, s72_9, s72_12, s72_13, s72_16, s72_17, s72_18, s72_19, s72_20, s72_22, s72_25, s72_26, s72_27, s72_28, s72_31, s72_33, s72_34, s72_37, s72_38, s72_39, s72_40, s72_42, s72_43, s72_44, s72_45, s72_47, s72_48, s72_49, s72_50, s72_51, s72_52, s72_55, s72_58, s72_61, s72_62, s72_63, s72_66, s72_67, s72_68, s72_71, s72_72, z_lt_t, z_lt_f, z_le_t, z_le_f, z_lt0, z_ge0, z_cl, z_in, z_add, z_eq_f, z_ne0, z_00, z_10, z_01, z_11, z_neg1, z_nI_NONE, z_div, z_rem, z_rem2, sw_pu_s, sw_pu_n, true_and, and_true, true_or, or_true, if_true, if_false, not_true_eq_false, not_false_eq_true, g4, r5, h4, bn_4]
    · rw [if_neg h4] at hcst
      have hb : T (37 + r) < T 0 := by omega
      have hpg := pf_gr hW hr h4
      have hg : gnT T r = grT T r (T (37 + r)) := by unfold gnT; rw [if_neg h4]
      have hle := gnT_le hW hr
      generalize hbb : T (37 + r) = b at h4 hb hpg hg r5 hcst
      obtain ⟨b1, b2, b3, b6⟩ := hB b (by omega)
      have hFB := FB_pf hW hF (n := r) (by omega) b (by omega)
      have h69 := fun Q => k69 (d := d + 1) (Q := Q) hV hWr (show r < pf T r 1 by omega) (show b < pf T r 0 by omega)
      rw [hpg] at h69 hcst
      have hV1 := IsV_fl hV (by omega) (by omega) (b := b) (by omega) (pf T r (17 + b) + grT T r b)
      have hW1 : WF (upT (pf T r) (17 + b) (pf T r (17 + b) + grT T r b)) := WF_cong hWr (fun i hi => upT_n _ _ (by omega))
      generalize hT1 : upT (pf T r) (17 + b) (pf T r (17 + b) + grT T r b) = T1 at hV1 hW1 hcst
      have q1 : T1 1 = T 1 := by rw [← hT1, upT_n _ _ (by omega), p1]
      have q0 : T1 0 = T 0 := by rw [← hT1, upT_n _ _ (by omega), p0]
      have h73 := fun Q => k73 (d := d + 1) (Q := Q) hV1 hW1 (show r < T1 1 by omega) (show b < T1 0 by omega)
      have hV2 := IsV_fr hV1 (by omega) (by omega) (show r < T1 1 by omega) (T1 (29 + r) - wT T1)
      have hV3 := IsV_fb hV2 (by rw [upT_n _ _ (by omega)]; omega) (by rw [upT_n _ _ (by omega)]; omega) (b := b) (by rw [upT_n _ _ (by omega)]; omega) (T1 (9 + b) - wT T1 - sT T1 r)
      have hw : wT T1 = wT (pf T r) := by unfold wT; rw [← hT1, upT_n _ _ (by omega), upT_n _ _ (by omega)]
      have hs : sT T1 r = sT (pf T r) r := by unfold sT; rw [← hT1, upT_n _ _ (by omega)]
      have e1 : T1 (29 + r) = pf T r (29 + r) := by rw [← hT1, upT_n _ _ (by omega)]
      have e2 : T1 (9 + b) = pf T r (9 + b) := by rw [← hT1, upT_n _ _ (by omega)]
      rw [hw, hs, e1, e2, hcst] at hV3
      rw [hw, hs, e1, e2] at h73
      obtain ⟨M', a1, a2, a3⟩ := ih (r + 1) (acc + grT T r b) (.int (nI b)) (.int (nI (grT T r b))) _ (by omega) (by omega) hV3
      refine ⟨M', a1, fun k hk => (a2 k hk).trans (by rw [z_up_n _ _ (by omega), z_up_n _ _ (by omega), z_up_n _ _ (by omega)]), fun Q => ?_⟩
      rw [gsF_s, hg, ← Nat.add_assoc, ← a3 Q]
      refine (s72_4 ..).trans ?_
      simp (disch := omega) only [s72_0, s72_1, s72_2, s72_3, s72_5, s72_6, s72_9, s72_12, s72_13, s72_16, s72_17, s72_18, s72_19, s72_20, s72_22, s72_25, s72_26, s72_27, s72_28, s72_31, s72_33, s72_34, s72_37, s72_38, s72_39, s72_40, s72_42, s72_43, s72_44, s72_45, s72_47, s72_48, s72_49, s72_50, s72_51, s72_52, s72_55, s72_58, s72_61, s72_62, s72_63, s72_66, s72_67, s72_68, s72_71, s72_72, z_lt_t, z_lt_f, z_le_t, z_le_f, z_lt0, z_ge0, z_cl, z_in, z_add, z_eq_f, z_ne0, z_00, z_10, z_01, z_11, z_neg1, z_nI_NONE, z_div, z_rem, z_rem2, sw_pu_s, sw_pu_n, true_and, and_true, true_or, or_true, if_true, if_false, not_true_eq_false, not_false_eq_true, g4, r5, bn_n, h69, b6, h73, sw_vk6, sw_vn6]
theorem k72 (hV : IsV M v T) (hW : WF T) {F : Nat} (hF : FB T F) (hFF : F ≤ 1000000) : ∃ M', IsV M' v (psT T) ∧ Off M M' v ∧ ∀ Q, sw_Cal (d + 4) 72 [.ref v] M Q = Q (some (.int (nI (gsT T)))) M' := by
  have hv := hV.1
  obtain ⟨M', a1, a2, a3⟩ := k72L (d := d) hW hF hFF (T 1) 0 0 sw_U sw_U M (by omega) (by omega) (by rw [pf_0]; exact hV)
  refine ⟨M', a1, a2, fun Q => ?_⟩
  rw [Nat.zero_add] at a3
  have := a3 Q
  rw [c72]
  simp (disch := omega) only [s72_0, s72_1, s72_2, s72_3, s72_5, s72_6, s72_9, s72_12, s72_13, s72_16, s72_17, s72_18, s72_19, s72_20, s72_22, s72_25, s72_26, s72_27, s72_28, s72_31, s72_33, s72_34, s72_37, s72_38, s72_39, s72_40, s72_42, s72_43, s72_44, s72_45, s72_47, s72_48, s72_49, s72_50, s72_51, s72_52, s72_55, s72_58, s72_61, s72_62, s72_63, s72_66, s72_67, s72_68, s72_71, s72_72, z_lt_t, z_lt_f, z_le_t, z_le_f, z_lt0, z_ge0, z_cl, z_in, z_add, z_eq_f, z_ne0, z_00, z_10, z_01, z_11, z_neg1, z_nI_NONE, z_div, z_rem, z_rem2, sw_pu_s, sw_pu_n, true_and, and_true, true_or, or_true, if_true, if_false, not_true_eq_false, not_false_eq_true, this, gsT]
end PAS
