section DRX
variable {T : Tw} {I : Nat → Tw} {π : Ps} {ρ : Rw} {τ : Tp} {ft sv : Int32} {θ : Tc} {M N : sw_Mem} {d c m v : Nat} {as : List Value} {Q : Option Value → sw_Mem → Prop}
theorem dq_0 (w0 : T 0 ≤ 4) (h0 : 0 < T 0) (w1 : T 1 ≤ 4) (y : Int64) : psT (dqT T y) 0 = T 0 ∧ psT (dqT T y) 1 = T 1 ∧ psT (dqT T y) 2 = T 2 ∧ psT (dqT T y) 4 = T 4 + 1 := by
  refine ⟨?_, ?_, ?_, ?_⟩
  · rw [psT_o _ (by omega) (by omega) (by omega) (by omega), dqT_o w0 h0 w1 (by omega)]
  · rw [psT_o _ (by omega) (by omega) (by omega) (by omega), dqT_o w0 h0 w1 (by omega)]
  · rw [psT_o _ (by omega) (by omega) (by omega) (by omega), dqT_o w0 h0 w1 (by omega)]
  · rw [psT_4, dqT_o w0 h0 w1 (by omega)]
theorem dwT_W : ∀ k (T : Tw) (y : Int64), WF T → 0 < T 0 → T 4 + k ≤ 2000 → WF (dwX nxd k T y) ∧ dwX nxd k T y 0 = T 0 ∧ dwX nxd k T y 1 = T 1 := by
  intro k
  induction k with
  | zero => intro T y h _ _; rw [dwX_0]; exact ⟨h, rfl, rfl⟩
  | succ k ih =>
    intro T y hW h0 h4
    obtain ⟨e0, e1, e2, e4⟩ := dq_0 hW.1 h0 hW.2.1 (nxd y)
    obtain ⟨a, b, c⟩ := ih (psT (dqT T (nxd y))) (nxd y) (WF_ps (WF_dq hW h0) (by rw [dqT_o hW.1 h0 hW.2.1 (by omega)]; omega)) (by rw [e0]; exact h0) (by rw [e4]; omega)
    rw [dwX_s]
    exact ⟨a, b.trans e0, c.trans e1⟩
theorem k26L {K : Nat} (hK : K ≤ 60) (s : Int32) : ∀ n i acc F (M : sw_Mem) (T : Tw) (y : Int64), i + n = K → acc ≤ 144 * i → IsV M 83 T → WF T → 0 < T 0 → FB T F → F + 36 * n ≤ 1000000 → T 4 + n ≤ 2000 → okd y →
    ∃ M', IsV M' 83 (dwX nxd n T y) ∧ sC M M' ∧ ∀ Q, sw_WP (d + 5) 26 18 [.ref 82, .ref 34, .int (nI K), .int s, .long y, sw_U, .int (nI acc), .int (nI i)] [] M Q = Q (some (.int (nI (acc + dwH nxd n T y)))) M' := by
  intro n
  induction n with
  | zero =>
    intro i acc F M T y h hacc hV hW h0 hF hFF h4 hy
    obtain rfl : i = K := by omega
    rw [dwX_0]
    refine ⟨M, hV, sC.rf, fun Q => ?_⟩
    refine (s26_18 ..).trans ?_
    simp (disch := omega) only [s26_20, s26_21, s26_24, s26_26, s26_29, s26_30, s26_33, s26_34, s26_36, s26_37, s26_39, s26_42, s26_44, s26_45, s26_48, s26_51, s26_52, s26_54, s26_57, s26_60, s26_62, z_lt_t, z_lt_f, z_le_t, z_le_f, z_lt0, z_ge0, z_cl, z_in, z_add, z_eq_f, z_ne0, z_00, z_10, z_01, z_11, z_neg1, z_nI_NONE, z_div, z_rem, z_rem2, sw_pu_s, sw_pu_n, true_and, and_true, true_or, or_true, if_true, if_false, not_true_eq_false, not_false_eq_true, dwH_0, Nat.add_zero]
  | succ n ih =>
    intro i acc F M T y h hacc hV hW h0 hF hFF h4 hy
    have w0 := hW.1
    have w1 := hW.2.1
    have hn := nxd_ok hy
    obtain ⟨M1, a1, a2, a3⟩ := k27 (d := d + 4) hV hW h0 hn
    have hWq := WF_dq (y := nxd y) hW h0
    have e4 : dqT T (nxd y) 4 = T 4 := dqT_o w0 h0 w1 (by omega)
    obtain ⟨M2, b1, b2, b3⟩ := k72 (d := d + 1) a1 hWq (FB_dq hF w0 w1 h0) (by omega)
    have hg := gsT_le hWq
    obtain ⟨q0, q1, q2, q4⟩ := dq_0 w0 h0 w1 (nxd y)
    obtain ⟨M3, c1, c2, c3⟩ := ih (i + 1) (acc + gsT (dqT T (nxd y))) (F + 36) M2 (psT (dqT T (nxd y))) (nxd y) (by omega) (by omega) b1 (WF_ps hWq (by omega)) (by rw [q0]; exact h0) (FB_ps hWq (FB_dq hF w0 w1 h0)) (by omega) (by rw [q4]; omega) hn
    rw [dwX_s]
    refine ⟨M3, c1, ((sC.off a2 (by omega)).tr (sC.off b2 (by omega))).tr c2, fun Q => ?_⟩
    rw [dwH_s, ← Nat.add_assoc, ← c3 Q]
    have z3 : (lN 2147483647 = 0) = False := eq_false (by decide)
    have en : y * lN 16807 - y * lN 16807 / lN 2147483647 * lN 2147483647 = nxd y := by rw [nxd]
    refine (s26_18 ..).trans ?_
    simp (disch := omega) only [s26_20, s26_21, s26_24, s26_26, s26_29, s26_30, s26_33, s26_34, s26_36, s26_37, s26_39, s26_42, s26_44, s26_45, s26_48, s26_51, s26_52, s26_54, s26_57, z_lt_t, z_lt_f, z_le_t, z_le_f, z_lt0, z_ge0, z_cl, z_in, z_add, z_eq_f, z_ne0, z_00, z_10, z_01, z_11, z_neg1, z_nI_NONE, z_div, z_rem, z_rem2, sw_pu_s, sw_pu_n, true_and, and_true, true_or, or_true, if_true, if_false, not_true_eq_false, not_false_eq_true, z3, en, a3, b3, kd_v.1]
theorem k26 (hV : IsV M 34 T) (hT : OKT T) (h0 : 0 < T 0) {n : Nat} (hn : n ≤ 60) {s : Int32} (hs1 : 1 ≤ s.toInt) (hs2 : s.toInt ≤ 999999) : ∃ M', IsV M' 83 (dwX nxd n T s.toInt64) ∧ sC M M' ∧ ∀ Q, sw_Cal (d + 6) 26 [.ref 82, .ref 34, .int (nI n), .int s] M Q = Q (some (.int (nI (dwH nxd n T s.toInt64)))) M' := by
  have h9 := hT.2.2.1
  have hB := bcM_V (M := M) (v := 83) hV kd_v.1 hT.1.1 hT.1.2.1 (by omega)
  have h59 := fun d Q => k59 (d := d) (M := M) (Q := Q) kd_v.1 kd34
  have hy : okd s.toInt64 := ⟨by rw [z_xT]; omega, by rw [z_xT]; omega⟩
  obtain ⟨M', a1, a2, a3⟩ := k26L (d := d) (K := n) hn s n 0 0 _ (bcM M 83 34) T s.toInt64 (by omega) (by omega) hB hT.1 h0 hT.2.1 (by omega) (by omega) hy
  refine ⟨M', a1, (sC.off (bcM_off M 83 34) (by omega)).tr a2, fun Q => ?_⟩
  have := a3 Q
  rw [Nat.zero_add] at this
  rw [c26]
  simp (disch := omega) only [s26_0, s26_1, s26_4, s26_5, s26_8, s26_9, s26_10, s26_12, s26_13, s26_15, s26_16, z_lt_t, z_lt_f, z_le_t, z_le_f, z_lt0, z_ge0, z_cl, z_in, z_add, z_eq_f, z_ne0, z_00, z_10, z_01, z_11, z_neg1, z_nI_NONE, z_div, z_rem, z_rem2, sw_pu_s, sw_pu_n, true_and, and_true, true_or, or_true, if_true, if_false, not_true_eq_false, not_false_eq_true, h59, kd_v.1]
  exact this
/-- all furrows there are -/
def fuT (T : Tw) (s : Nat) : Nat := if hs T s then T (stP s) else 0
theorem fuT_le (hW : WF T) {s : Nat} (h : s < 8) : fuT T s ≤ 9 := by
  unfold fuT stP
  split
  · rename_i c
    split
    · exact (hW.2.2.2.2.2.1 s (by omega)).2.2.2.1
    · have := (hW.2.2.2.2.2.2.1 (s - 4) (by omega)).2.1
      rw [show 9 + (s - 4) = 5 + s by omega] at this
      exact this
  · omega
theorem IsV_fu (hV : IsV M v T) {s : Nat} (h : hs T s) : M (v + 2) s = nI (T (stP s)) := by
  unfold stP
  rcases h with ⟨a, b⟩ | ⟨a, b⟩
  · rw [if_pos a]
    exact (hV.2.2.1 s b).2.1
  · rw [if_neg (by omega)]
    have := (hV.2.2.2 (s - 4) b).2.1
    rw [show 4 + (s - 4) = s by omega, show 9 + (s - 4) = 5 + s by omega] at this
    exact this
theorem k77L (hV : IsV M v T) (hW : WF T) : ∀ n s, s + n = 8 → sw_WP (d + 2) 77 4 [.ref v, .int (nI (sm (fuT T) s)), .int (nI s)] [] M Q = Q (some (.int (nI (sm (fuT T) 8)))) M := by
  have hv := hV.1
  intro n
  induction n with
  | zero =>
    intro s h
    obtain rfl : s = 8 := by omega
    refine (s77_4 ..).trans ?_
    simp (disch := omega) only [s77_5, s77_7, s77_10, s77_11, s77_12, s77_13, s77_16, s77_19, s77_20, s77_23, s77_24, s77_25, s77_28, s77_29, s77_30, s77_31, s77_34, s77_37, s77_38, z_lt_t, z_lt_f, z_le_t, z_le_f, z_lt0, z_ge0, z_cl, z_in, z_add, z_eq_f, z_ne0, z_00, z_10, z_01, z_11, z_neg1, z_nI_NONE, z_div, z_rem, z_rem2, sw_pu_s, sw_pu_n, true_and, and_true, true_or, or_true, if_true, if_false, not_true_eq_false, not_false_eq_true]
  | succ n ih =>
    intro s h
    have := ih (s + 1) (by omega)
    have hl : sm (fuT T) s ≤ 9 * s := sm_le (fun i hi => fuT_le hW (by omega))
    have h65 := fun d Q => k65n (d := d) (Q := Q) hV hW (show s < 8 by omega)
    rw [sm_s] at this
    refine (s77_4 ..).trans ?_
    unfold fuT at this ⊢
    by_cases c : hs T s
    · have h65 := fun d Q => (h65 d Q).trans (if_pos c)
      have e := IsV_fu hV c
      rw [if_pos c] at this
      simp (disch := omega) only [s77_5, s77_7, s77_10, s77_11, s77_12, s77_13, s77_16, s77_19, s77_20, s77_23, s77_24, s77_25, s77_28, s77_29, s77_30, s77_31, s77_34, z_lt_t, z_lt_f, z_le_t, z_le_f, z_lt0, z_ge0, z_cl, z_in, z_add, z_eq_f, z_ne0, z_00, z_10, z_01, z_11, z_neg1, z_nI_NONE, z_div, z_rem, z_rem2, sw_pu_s, sw_pu_n, true_and, and_true, true_or, or_true, if_true, if_false, not_true_eq_false, not_false_eq_true, h65, hv, e]
      exact this
    · have h65 := fun d Q => (h65 d Q).trans (if_neg c)
      rw [if_neg c] at this
      simp (disch := omega) only [s77_5, s77_7, s77_10, s77_11, s77_12, s77_13, s77_16, s77_19, s77_20, s77_23, s77_24, s77_25, s77_28, s77_29, s77_30, s77_31, s77_34, z_lt_t, z_lt_f, z_le_t, z_le_f, z_lt0, z_ge0, z_cl, z_in, z_add, z_eq_f, z_ne0, z_00, z_10, z_01, z_11, z_neg1, z_nI_NONE, z_div, z_rem, z_rem2, sw_pu_s, sw_pu_n, true_and, and_true, true_or, or_true, if_true, if_false, not_true_eq_false, not_false_eq_true, h65, hv]
      exact this
theorem k77 (hV : IsV M v T) (hW : WF T) : sw_Cal (d + 3) 77 [.ref v] M Q = Q (some (.int (nI (sm (fuT T) 8)))) M := by
  have hv := hV.1
  have := k77L (d := d) (Q := Q) hV hW 8 0 (by omega)
  rw [c77]
  simp (disch := omega) only [s77_0, s77_1, s77_2, s77_3, z_lt_t, z_lt_f, z_le_t, z_le_f, z_lt0, z_ge0, z_cl, z_in, z_add, z_eq_f, z_ne0, z_00, z_10, z_01, z_11, z_neg1, z_nI_NONE, z_div, z_rem, z_rem2, sw_pu_s, sw_pu_n, true_and, and_true, true_or, or_true, if_true, if_false, not_true_eq_false, not_false_eq_true]
  exact this
theorem fu_84 (T : Tw) : sm (fun k => fuT T k + fuT T (4 + k)) 4 = sm (fuT T) 8 := by
  show 0 + (fuT T 0 + fuT T 4) + (fuT T 1 + fuT T 5) + (fuT T 2 + fuT T 6) + (fuT T 3 + fuT T 7) = 0 + fuT T 0 + fuT T 1 + fuT T 2 + fuT T 3 + fuT T 4 + fuT T 5 + fuT T 6 + fuT T 7
  omega
end DRX
