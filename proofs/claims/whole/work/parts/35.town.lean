theorem z_pk_s (k : Int) (ks : List Int) (t : Nat) (ts : List Nat) (x : Int) : sw_pick (k :: ks) (t :: ts) x = if x = k then t else sw_pick ks ts x := rfl
theorem z_pk_n (t : Nat) (ts : List Nat) (x : Int) : sw_pick [] (t :: ts) x = t := rfl
theorem sm_le {f : Nat → Nat} {c n : Nat} (h : ∀ i, i < n → f i ≤ c) : sm f n ≤ c * n := by
  induction n with
  | zero => exact Nat.zero_le _
  | succ n ih =>
    have h1 := ih (fun i hi => h i (by omega))
    have h2 := h n (by omega)
    have h3 : c * (n + 1) = c * n + c := Nat.mul_succ c n
    show sm f n + f n ≤ _
    omega
theorem sm_s (f : Nat → Nat) (n : Nat) : sm f (n + 1) = sm f n + f n := rfl
def flT (T : Tw) (n : Nat) : Nat := sm (fun b => T (17 + b)) n
theorem flT_s (T : Tw) (n : Nat) : flT T (n + 1) = flT T n + T (17 + n) := rfl
theorem flT_le {T : Tw} {F n : Nat} (hF : FB T F) (hn : n ≤ T 0) (h4 : T 0 ≤ 4) : flT T n ≤ 4 * F := by
  have h1 : flT T n ≤ F * n := sm_le (fun i hi => hF i (by omega))
  have h2 : F * n ≤ F * 4 := Nat.mul_le_mul_left F (by omega)
  omega
def lyT (T : Tw) (n : Nat) : Nat := sm (fun r => if T (37 + r) = 4 then 0 else 1) n
theorem lyT_s (T : Tw) (n : Nat) : lyT T (n + 1) = lyT T n + (if T (37 + n) = 4 then 0 else 1) := rfl
theorem lyT_le (T : Tw) (n : Nat) : lyT T n ≤ 1 * n := sm_le (fun i _ => by split <;> omega)
section TWN
variable {d v B : Nat} {M : sw_Mem} {T : Tw} {Q : Option Value → sw_Mem → Prop}
theorem k76L (hV : IsV M v T) (hW : WF T) {F : Nat} (hF : FB T F) (hFF : F ≤ 1000000) : ∀ n i, i + n = T 0 → sw_WP d 76 4 [.ref v, .int (nI (flT T i)), .int (nI i)] [] M Q = Q (some (.int (nI (flT T (T 0))))) M := by
  obtain ⟨hv, ⟨-, -, -, h0, h1⟩, -, hB⟩ := hV
  have w0 := hW.1
  intro n
  induction n with
  | zero =>
    intro i h
    obtain rfl : i = T 0 := by omega
    refine (s76_4 ..).trans ?_
    simp (disch := omega) only [s76_0, s76_1, s76_2, s76_3, s76_5, s76_6, s76_9, s76_12, s76_13, s76_14, s76_17, s76_18, s76_19, s76_20, s76_21, s76_24, s76_27, s76_28, z_lt_t, z_lt_f, z_le_t, z_le_f, z_lt0, z_ge0, z_cl, z_in, z_add, z_eq_f, z_ne0, z_00, z_10, z_01, z_11, z_neg1, z_nI_NONE, z_div, z_rem, z_rem2, sw_pu_s, sw_pu_n, true_and, and_true, true_or, or_true, if_true, if_false, not_true_eq_false, not_false_eq_true, h0]
  | succ n ih =>
    intro i h
    have := ih (i + 1) (by omega)
    have hb := (hB i (by omega)).2.2.2
    have hl := flT_le hF (show i ≤ T 0 by omega) w0
    rw [flT_s] at this
    refine (s76_4 ..).trans ?_
    simp (disch := omega) only [s76_0, s76_1, s76_2, s76_3, s76_5, s76_6, s76_9, s76_12, s76_13, s76_14, s76_17, s76_18, s76_19, s76_20, s76_21, s76_24, s76_27, s76_28, z_lt_t, z_lt_f, z_le_t, z_le_f, z_lt0, z_ge0, z_cl, z_in, z_add, z_eq_f, z_ne0, z_00, z_10, z_01, z_11, z_neg1, z_nI_NONE, z_div, z_rem, z_rem2, sw_pu_s, sw_pu_n, true_and, and_true, true_or, or_true, if_true, if_false, not_true_eq_false, not_false_eq_true, h0, hb, this]
theorem k76 (hV : IsV M v T) (hW : WF T) {F : Nat} (hF : FB T F) (hFF : F ≤ 1000000) : sw_Cal (d + 1) 76 [.ref v] M Q = Q (some (.int (nI (flT T (T 0))))) M := by
  have := k76L (d := d) (Q := Q) hV hW hF hFF (T 0) 0 (by omega)
  have hv := hV.1
  rw [c76]
  simp (disch := omega) only [s76_0, s76_1, s76_2, s76_3, s76_5, s76_6, s76_9, s76_12, s76_13, s76_14, s76_17, s76_18, s76_19, s76_20, s76_21, s76_24, s76_27, s76_28, z_lt_t, z_lt_f, z_le_t, z_le_f, z_lt0, z_ge0, z_cl, z_in, z_add, z_eq_f, z_ne0, z_00, z_10, z_01, z_11, z_neg1, z_nI_NONE, z_div, z_rem, z_rem2, sw_pu_s, sw_pu_n, true_and, and_true, true_or, or_true, if_true, if_false, not_true_eq_false, not_false_eq_true]
  exact this
theorem k167L (hM : IsM M B T) (hW : WF T) (hB : B ≤ 1107) {F : Nat} (hF : FB T F) (hFF : F ≤ 1000000) : ∀ n i, i + n = T 0 → sw_WP d 167 4 [.ref 0, .int (nI B), .int (nI (flT T i)), .int (nI i)] [] M Q = Q (some (.int (nI (flT T (T 0))))) M := by
  have w0 := hW.1
  have m0 := hM.at 0 (by omega)
  intro n
  induction n with
  | zero =>
    intro i h
    obtain rfl : i = T 0 := by omega
    refine (s167_4 ..).trans ?_
    simp (disch := omega) only [s167_0, s167_1, s167_2, s167_3, s167_5, s167_6, s167_9, s167_10, s167_11, s167_12, s167_13, s167_16, s167_17, s167_18, s167_21, s167_22, s167_24, s167_25, s167_26, s167_27, s167_28, s167_29, s167_30, s167_33, s167_36, s167_37, z_lt_t, z_lt_f, z_le_t, z_le_f, z_lt0, z_ge0, z_cl, z_in, z_add, z_eq_f, z_ne0, z_00, z_10, z_01, z_11, z_neg1, z_nI_NONE, z_div, z_rem, z_rem2, sw_pu_s, sw_pu_n, true_and, and_true, true_or, or_true, if_true, if_false, not_true_eq_false, not_false_eq_true, m0]
  | succ n ih =>
    intro i h
    have := ih (i + 1) (by omega)
    have hb := hM.at2 17 i (by omega)
    have hl := flT_le hF (show i ≤ T 0 by omega) w0
    rw [flT_s] at this
    refine (s167_4 ..).trans ?_
    simp (disch := omega) only [s167_0, s167_1, s167_2, s167_3, s167_5, s167_6, s167_9, s167_10, s167_11, s167_12, s167_13, s167_16, s167_17, s167_18, s167_21, s167_22, s167_24, s167_25, s167_26, s167_27, s167_28, s167_29, s167_30, s167_33, s167_36, s167_37, z_lt_t, z_lt_f, z_le_t, z_le_f, z_lt0, z_ge0, z_cl, z_in, z_add, z_eq_f, z_ne0, z_00, z_10, z_01, z_11, z_neg1, z_nI_NONE, z_div, z_rem, z_rem2, sw_pu_s, sw_pu_n, true_and, and_true, true_or, or_true, if_true, if_false, not_true_eq_false, not_false_eq_true, m0, hb, this]
theorem k167 (hM : IsM M B T) (hW : WF T) (hB : B ≤ 1107) {F : Nat} (hF : FB T F) (hFF : F ≤ 1000000) : sw_Cal (d + 1) 167 [.ref 0, .int (nI B)] M Q = Q (some (.int (nI (flT T (T 0))))) M := by
  have := k167L (d := d) (Q := Q) hM hW hB hF hFF (T 0) 0 (by omega)
  rw [c167]
  simp (disch := omega) only [s167_0, s167_1, s167_2, s167_3, s167_5, s167_6, s167_9, s167_10, s167_11, s167_12, s167_13, s167_16, s167_17, s167_18, s167_21, s167_22, s167_24, s167_25, s167_26, s167_27, s167_28, s167_29, s167_30, s167_33, s167_36, s167_37, z_lt_t, z_lt_f, z_le_t, z_le_f, z_lt0, z_ge0, z_cl, z_in, z_add, z_eq_f, z_ne0, z_00, z_10, z_01, z_11, z_neg1, z_nI_NONE, z_div, z_rem, z_rem2, sw_pu_s, sw_pu_n, true_and, and_true, true_or, or_true, if_true, if_false, not_true_eq_false, not_false_eq_true]
  exact this
theorem k75L (hV : IsV M v T) (hW : WF T) : ∀ n i, i + n = T 1 → sw_WP d 75 4 [.ref v, .int (nI (lyT T i)), .int (nI i)] [] M Q = Q (some (.int (nI (lyT T (T 1))))) M := by
  obtain ⟨hv, ⟨-, -, -, h0, h1⟩, hR, -⟩ := hV
  have w1 := hW.2.1
  intro n
  induction n with
  | zero =>
    intro i h
    obtain rfl : i = T 1 := by omega
    refine (s75_4 ..).trans ?_
    simp (disch := omega) only [s75_0, s75_1, s75_2, s75_3, s75_5, s75_6, s75_9, s75_12, s75_13, s75_14, s75_17, s75_18, s75_19, s75_21, s75_24, s75_25, s75_28, s75_29, s75_30, s75_31, s75_34, s75_37, s75_38, z_lt_t, z_lt_f, z_le_t, z_le_f, z_lt0, z_ge0, z_cl, z_in, z_add, z_eq_f, z_ne0, z_00, z_10, z_01, z_11, z_neg1, z_nI_NONE, z_div, z_rem, z_rem2, sw_pu_s, sw_pu_n, true_and, and_true, true_or, or_true, if_true, if_false, not_true_eq_false, not_false_eq_true, h1]
  | succ n ih =>
    intro i h
    have := ih (i + 1) (by omega)
    have hb := (hR i (by omega)).2.2.2.2
    have w := (hW.2.2.2.2.2.1 i (by omega)).2.2.2.2.2
    have w0 := hW.1
    have hl := lyT_le T i
    rw [lyT_s] at this
    refine (s75_4 ..).trans ?_
    by_cases e : T (37 + i) = 4
    · rw [if_pos e] at this
      simp (disch := omega) only [s75_0, s75_1, s75_2, s75_3, s75_5, s75_6, s75_9, s75_12, s75_13, s75_14, s75_17, s75_18, s75_19, s75_21, s75_24, s75_25, s75_28, s75_29, s75_30, s75_31, s75_34, s75_37, s75_38, z_lt_t, z_lt_f, z_le_t, z_le_f, z_lt0, z_ge0, z_cl, z_in, z_add, z_eq_f, z_ne0, z_00, z_10, z_01, z_11, z_neg1, z_nI_NONE, z_div, z_rem, z_rem2, sw_pu_s, sw_pu_n, true_and, and_true, true_or, or_true, if_true, if_false, not_true_eq_false, not_false_eq_true, h1, hb, z_bn, e, this]
    · rw [if_neg e] at this
      simp (disch := omega) only [s75_0, s75_1, s75_2, s75_3, s75_5, s75_6, s75_9, s75_12, s75_13, s75_14, s75_17, s75_18, s75_19, s75_21, s75_24, s75_25, s75_28, s75_29, s75_30, s75_31, s75_34, s75_37, s75_38, z_lt_t, z_lt_f, z_le_t, z_le_f, z_lt0, z_ge0, z_cl, z_in, z_add, z_eq_f, z_ne0, z_00, z_10, z_01, z_11, z_neg1, z_nI_NONE, z_div, z_rem, z_rem2, sw_pu_s, sw_pu_n, true_and, and_true, true_or, or_true, if_true, if_false, not_true_eq_false, not_false_eq_true, h1, hb, z_bn, e, this]
theorem k75 (hV : IsV M v T) (hW : WF T) : sw_Cal (d + 1) 75 [.ref v] M Q = Q (some (.int (nI (lyT T (T 1))))) M := by
  have := k75L (d := d) (Q := Q) hV hW (T 1) 0 (by omega)
  have hv := hV.1
  rw [c75]
  simp (disch := omega) only [s75_0, s75_1, s75_2, s75_3, s75_5, s75_6, s75_9, s75_12, s75_13, s75_14, s75_17, s75_18, s75_19, s75_21, s75_24, s75_25, s75_28, s75_29, s75_30, s75_31, s75_34, s75_37, s75_38, z_lt_t, z_lt_f, z_le_t, z_le_f, z_lt0, z_ge0, z_cl, z_in, z_add, z_eq_f, z_ne0, z_00, z_10, z_01, z_11, z_neg1, z_nI_NONE, z_div, z_rem, z_rem2, sw_pu_s, sw_pu_n, true_and, and_true, true_or, or_true, if_true, if_false, not_true_eq_false, not_false_eq_true]
  exact this
theorem k219L (hM : IsM M 0 T) (hW : WF T) : ∀ n i, i + n = T 1 → sw_WP d 219 4 [.ref 0, .int (nI (lyT T i)), .int (nI i)] [] M Q = Q (some (.int (nI (lyT T (T 1))))) M := by
  have w1 := hW.2.1
  have m1 := hM.z 1 (by omega)
  intro n
  induction n with
  | zero =>
    intro i h
    obtain rfl : i = T 1 := by omega
    refine (s219_4 ..).trans ?_
    simp (disch := omega) only [s219_0, s219_1, s219_2, s219_3, s219_5, s219_6, s219_9, s219_10, s219_11, s219_14, s219_15, s219_16, s219_19, s219_21, s219_22, s219_23, s219_24, s219_25, s219_28, s219_29, s219_32, s219_33, s219_34, s219_35, s219_38, s219_41, s219_42, z_lt_t, z_lt_f, z_le_t, z_le_f, z_lt0, z_ge0, z_cl, z_in, z_add, z_eq_f, z_ne0, z_00, z_10, z_01, z_11, z_neg1, z_nI_NONE, z_div, z_rem, z_rem2, sw_pu_s, sw_pu_n, true_and, and_true, true_or, or_true, if_true, if_false, not_true_eq_false, not_false_eq_true, m1]
  | succ n ih =>
    intro i h
    have := ih (i + 1) (by omega)
    have hb := hM.z (37 + i) (by omega)
    have w := (hW.2.2.2.2.2.1 i (by omega)).2.2.2.2.2
    have w0 := hW.1
    have hl := lyT_le T i
    rw [lyT_s] at this
    refine (s219_4 ..).trans ?_
    by_cases e : T (37 + i) = 4
    · rw [if_pos e] at this
      rw [e] at hb
      simp (disch := omega) only [s219_0, s219_1, s219_2, s219_3, s219_5, s219_6, s219_9, s219_10, s219_11, s219_14, s219_15, s219_16, s219_19, s219_21, s219_22, s219_23, s219_24, s219_25, s219_28, s219_29, s219_32, s219_33, s219_34, s219_35, s219_38, s219_41, s219_42, z_lt_t, z_lt_f, z_le_t, z_le_f, z_lt0, z_ge0, z_cl, z_in, z_add, z_eq_f, z_ne0, z_00, z_10, z_01, z_11, z_neg1, z_nI_NONE, z_div, z_rem, z_rem2, sw_pu_s, sw_pu_n, true_and, and_true, true_or, or_true, if_true, if_false, not_true_eq_false, not_false_eq_true, m1, hb, this]
    · rw [if_neg e] at this
      simp (disch := omega) only [s219_0, s219_1, s219_2, s219_3, s219_5, s219_6, s219_9, s219_10, s219_11, s219_14, s219_15, s219_16, s219_19, s219_21, s219_22, s219_23, s219_24, s219_25, s219_28, s219_29, s219_32, s219_33, s219_34, s219_35, s219_38, s219_41, s219_42, z_lt_t, z_lt_f, z_le_t, z_le_f, z_lt0, z_ge0, z_cl, z_in, z_add, z_eq_f, z_ne0, z_00, z_10, z_01, z_11, z_neg1, z_nI_NONE, z_div, z_rem, z_rem2, sw_pu_s, sw_pu_n, true_and, and_true, true_or, or_true, if_true, if_false, not_true_eq_false, not_false_eq_true, m1, hb, this]
theorem k219 (hM : IsM M 0 T) (hW : WF T) : sw_Cal (d + 1) 219 [.ref 0] M Q = Q (some (.int (nI (lyT T (T 1))))) M := by
  have := k219L (d := d) (Q := Q) hM hW (T 1) 0 (by omega)
  rw [c219]
  simp (disch := omega) only [s219_0, s219_1, s219_2, s219_3, s219_5, s219_6, s219_9, s219_10, s219_11, s219_14, s219_15, s219_16, s219_19, s219_21, s219_22, s219_23, s219_24, s219_25, s219_28, s219_29, s219_32, s219_33, s219_34, s219_35, s219_38, s219_41, s219_42, z_lt_t, z_lt_f, z_le_t, z_le_f, z_lt0, z_ge0, z_cl, z_in, z_add, z_eq_f, z_ne0, z_00, z_10, z_01, z_11, z_neg1, z_nI_NONE, z_div, z_rem, z_rem2, sw_pu_s, sw_pu_n, true_and, and_true, true_or, or_true, if_true, if_false, not_true_eq_false, not_false_eq_true]
  exact this
theorem k173 {x : Nat} (hx : x < 2 ^ 30) : sw_Cal (d + 1) 173 [.ref 0, .int (nI x)] M Q = Q (some (.int (bn x))) M := by
  rw [c173]
  by_cases h : x = 4
  · subst h
    simp (disch := omega) only [s173_0, s173_1, s173_2, s173_5, s173_7, s173_10, s173_11, z_lt_t, z_lt_f, z_le_t, z_le_f, z_lt0, z_ge0, z_cl, z_in, z_add, z_eq_f, z_ne0, z_00, z_10, z_01, z_11, z_neg1, z_nI_NONE, z_div, z_rem, z_rem2, sw_pu_s, sw_pu_n, true_and, and_true, true_or, or_true, if_true, if_false, not_true_eq_false, not_false_eq_true, bn_4]
  · simp (disch := omega) only [s173_0, s173_1, s173_2, s173_5, s173_7, s173_10, s173_11, z_lt_t, z_lt_f, z_le_t, z_le_f, z_lt0, z_ge0, z_cl, z_in, z_add, z_eq_f, z_ne0, z_00, z_10, z_01, z_11, z_neg1, z_nI_NONE, z_div, z_rem, z_rem2, sw_pu_s, sw_pu_n, true_and, and_true, true_or, or_true, if_true, if_false, not_true_eq_false, not_false_eq_true, bn_n h]
end TWN
section OPD
variable {T : Tw} {I : Nat → Tw} {π : Ps} {ρ : Rw} {τ : Tp} {ft sv : Int32} {θ : Tc} {M N : sw_Mem} {c m : Nat} {as : List Value}
theorem o_grinds (x y : Int32) : Opp 105 176 [.int x, .int y] := by
  intro d T I π ρ τ ft sv θ M N hO hC hM
  have hV := hC.1
  have hT := hM.1.1
  have hW := hO.1.1
  have w0 := hW.1
  have w1 := hW.2.1
  have h63 := fun d Q => k63 (d := d) (Q := Q) hV hW x
  have h64 := fun d Q => k64 (d := d) (Q := Q) hV hW y
  have h160 := fun d Q => k160 (d := d) (Q := Q) hT hW x
  have h161 := fun d Q => k161 (d := d) (Q := Q) hT hW y
  by_cases b : sw_ib x (T 1)
  case neg =>
    have b := eq_false b
    refine Res_id hO hC hM (-1000001) (fun Q => ?_) (fun Q => ?_)
    · rw [c105]
      simp (disch := omega) only [s105_0, s105_1, s105_4, s105_5, s105_8, s105_11, s105_12, s105_15, s105_16, s105_19, s105_22, s105_24, s105_25, s105_26, s105_29, s105_30, s105_31, s105_34, z_lt_t, z_lt_f, z_le_t, z_le_f, z_lt0, z_ge0, z_cl, z_in, z_add, z_eq_f, z_ne0, z_00, z_10, z_01, z_11, z_neg1, z_nI_NONE, z_div, z_rem, z_rem2, sw_pu_s, sw_pu_n, true_and, and_true, true_or, or_true, if_true, if_false, not_true_eq_false, not_false_eq_true, h63, b]
    · rw [c176]
      simp (disch := omega) only [s176_0, s176_1, s176_2, s176_5, s176_8, s176_9, s176_10, s176_13, s176_16, s176_17, s176_18, s176_19, s176_20, s176_23, s176_26, s176_28, z_lt_t, z_lt_f, z_le_t, z_le_f, z_lt0, z_ge0, z_cl, z_in, z_add, z_eq_f, z_ne0, z_00, z_10, z_01, z_11, z_neg1, z_nI_NONE, z_div, z_rem, z_rem2, sw_pu_s, sw_pu_n, true_and, and_true, true_or, or_true, if_true, if_false, not_true_eq_false, not_false_eq_true, h160, b]
  by_cases b2 : sw_ib y (T 0)
  case neg =>
    have b2 := eq_false b2
    refine Res_id hO hC hM (-1000001) (fun Q => ?_) (fun Q => ?_)
    · rw [c105]
      simp (disch := omega) only [s105_0, s105_1, s105_4, s105_5, s105_8, s105_11, s105_12, s105_15, s105_16, s105_19, s105_22, s105_24, s105_25, s105_26, s105_29, s105_30, s105_31, s105_34, z_lt_t, z_lt_f, z_le_t, z_le_f, z_lt0, z_ge0, z_cl, z_in, z_add, z_eq_f, z_ne0, z_00, z_10, z_01, z_11, z_neg1, z_nI_NONE, z_div, z_rem, z_rem2, sw_pu_s, sw_pu_n, true_and, and_true, true_or, or_true, if_true, if_false, not_true_eq_false, not_false_eq_true, h63, h64, eq_true b, b2]
    · rw [c176]
      simp (disch := omega) only [s176_0, s176_1, s176_2, s176_5, s176_8, s176_9, s176_10, s176_13, s176_16, s176_17, s176_18, s176_19, s176_20, s176_23, s176_26, s176_28, z_lt_t, z_lt_f, z_le_t, z_le_f, z_lt0, z_ge0, z_cl, z_in, z_add, z_eq_f, z_ne0, z_00, z_10, z_01, z_11, z_neg1, z_nI_NONE, z_div, z_rem, z_rem2, sw_pu_s, sw_pu_n, true_and, and_true, true_or, or_true, if_true, if_false, not_true_eq_false, not_false_eq_true, h160, h161, eq_true b, b2]
  have b1 := eq_true b
  simp only [b1, if_true] at h63 h160
  have b3 := eq_true b2
  simp only [b3, if_true] at h64 h161
  obtain ⟨r, hr, rfl⟩ := sw_ib_of b (by omega)
  obtain ⟨e, he, rfl⟩ := sw_ib_of b2 (by omega)
  have h69 := fun d Q => k69 (d := d) (Q := Q) hV hW hr he
  have h163 := fun d Q => k163 (d := d) (Q := Q) hT (by omega) hW hr he
  refine Res_id hO hC hM (nI (grT T r e)) (fun Q => ?_) (fun Q => ?_)
  · rw [c105]
    simp (disch := omega) only [s105_0, s105_1, s105_4, s105_5, s105_8, s105_11, s105_12, s105_15, s105_16, s105_19, s105_22, s105_24, s105_25, s105_26, s105_29, s105_30, s105_31, s105_34, z_lt_t, z_lt_f, z_le_t, z_le_f, z_lt0, z_ge0, z_cl, z_in, z_add, z_eq_f, z_ne0, z_00, z_10, z_01, z_11, z_neg1, z_nI_NONE, z_div, z_rem, z_rem2, sw_pu_s, sw_pu_n, true_and, and_true, true_or, or_true, if_true, if_false, not_true_eq_false, not_false_eq_true, h63, h64, h69]
  · rw [c176]
    simp (disch := omega) only [s176_0, s176_1, s176_2, s176_5, s176_8, s176_9, s176_10, s176_13, s176_16, s176_17, s176_18, s176_19, s176_20, s176_23, s176_26, s176_28, z_lt_t, z_lt_f, z_le_t, z_le_f, z_lt0, z_ge0, z_cl, z_in, z_add, z_eq_f, z_ne0, z_00, z_10, z_01, z_11, z_neg1, z_nI_NONE, z_div, z_rem, z_rem2, sw_pu_s, sw_pu_n, true_and, and_true, true_or, or_true, if_true, if_false, not_true_eq_false, not_false_eq_true, h160, h161, h163]
theorem o_kind (x : Int32) : Opp 118 205 [.int x] := by
  intro d T I π ρ τ ft sv θ M N hO hC hM
  have hV := hC.1
  have hT := hM.1.1
  have hW := hO.1.1
  have w1 := hW.2.1
  have h63 := fun d Q => k63 (d := d) (Q := Q) hV hW x
  have h160 := fun d Q => k160 (d := d) (Q := Q) hT hW x
  by_cases b : sw_ib x (T 1)
  case neg =>
    have b := eq_false b
    refine Res_id hO hC hM (-1000001) (fun Q => ?_) (fun Q => ?_)
    · rw [c118]
      simp (disch := omega) only [s118_0, s118_1, s118_4, s118_5, s118_8, s118_11, s118_12, s118_15, s118_18, s118_19, s118_20, s118_23, s118_25, z_lt_t, z_lt_f, z_le_t, z_le_f, z_lt0, z_ge0, z_cl, z_in, z_add, z_eq_f, z_ne0, z_00, z_10, z_01, z_11, z_neg1, z_nI_NONE, z_div, z_rem, z_rem2, sw_pu_s, sw_pu_n, true_and, and_true, true_or, or_true, if_true, if_false, not_true_eq_false, not_false_eq_true, h63, b]
    · rw [c205]
      simp (disch := omega) only [s205_0, s205_1, s205_2, s205_5, s205_8, s205_9, s205_12, s205_14, s205_15, s205_16, s205_17, s205_20, s205_22, z_lt_t, z_lt_f, z_le_t, z_le_f, z_lt0, z_ge0, z_cl, z_in, z_add, z_eq_f, z_ne0, z_00, z_10, z_01, z_11, z_neg1, z_nI_NONE, z_div, z_rem, z_rem2, sw_pu_s, sw_pu_n, true_and, and_true, true_or, or_true, if_true, if_false, not_true_eq_false, not_false_eq_true, h160, b]
  have b1 := eq_true b
  simp only [b1, if_true] at h63 h160
  obtain ⟨r, hr, rfl⟩ := sw_ib_of b (by omega)
  have e1 := (hV.2.2.1 r hr).2.2.2.1
  have e2 := hT.z (21 + r) (by omega)
  refine Res_id hO hC hM (nI (T (21 + r))) (fun Q => ?_) (fun Q => ?_)
  · rw [c118]
    simp (disch := omega) only [s118_0, s118_1, s118_4, s118_5, s118_8, s118_11, s118_12, s118_15, s118_18, s118_19, s118_20, s118_23, s118_25, z_lt_t, z_lt_f, z_le_t, z_le_f, z_lt0, z_ge0, z_cl, z_in, z_add, z_eq_f, z_ne0, z_00, z_10, z_01, z_11, z_neg1, z_nI_NONE, z_div, z_rem, z_rem2, sw_pu_s, sw_pu_n, true_and, and_true, true_or, or_true, if_true, if_false, not_true_eq_false, not_false_eq_true, h63, e1]
  · rw [c205]
    simp (disch := omega) only [s205_0, s205_1, s205_2, s205_5, s205_8, s205_9, s205_12, s205_14, s205_15, s205_16, s205_17, s205_20, s205_22, z_lt_t, z_lt_f, z_le_t, z_le_f, z_lt0, z_ge0, z_cl, z_in, z_add, z_eq_f, z_ne0, z_00, z_10, z_01, z_11, z_neg1, z_nI_NONE, z_div, z_rem, z_rem2, sw_pu_s, sw_pu_n, true_and, and_true, true_or, or_true, if_true, if_false, not_true_eq_false, not_false_eq_true, h160, e2]
theorem o_runner (x w : Int32) : Opp 103 174 [.int x, .int w] := by
  intro d T I π ρ τ ft sv θ M N hO hC hM
  have hV := hC.1
  have hT := hM.1.1
  have hW := hO.1.1
  have w1 := hW.2.1
  have w0 := hW.1
  have h63 := fun d Q => k63 (d := d) (Q := Q) hV hW x
  have h160 := fun d Q => k160 (d := d) (Q := Q) hT hW x
  by_cases b : sw_ib x (T 1)
  case neg =>
    have b := eq_false b
    refine Res_id hO hC hM (-1000001) (fun Q => ?_) (fun Q => ?_)
    · rw [c103]
      simp (disch := omega) only [s103_0, s103_1, s103_4, s103_5, s103_8, s103_11, s103_13, s103_14, s103_15, s103_48, s103_49, s103_52, s103_55, s103_56, s103_57, s103_58, s103_59, s103_62, s103_65, s103_66, s103_67, s103_68, s103_69, s103_72, s103_75, s103_76, s103_77, s103_78, s103_79, s103_82, s103_85, s103_86, s103_87, s103_88, s103_89, s103_92, s103_93, s103_96, s103_97, s103_99, z_lt_t, z_lt_f, z_le_t, z_le_f, z_lt0, z_ge0, z_cl, z_in, z_add, z_eq_f, z_ne0, z_00, z_10, z_01, z_11, z_neg1, z_nI_NONE, z_div, z_rem, z_rem2, sw_pu_s, sw_pu_n, true_and, and_true, true_or, or_true, if_true, if_false, not_true_eq_false, not_false_eq_true, h63, b]
    · rw [c174]
      simp (disch := omega) only [s174_0, s174_1, s174_2, s174_5, s174_8, s174_10, s174_11, s174_12, s174_48, s174_49, s174_52, s174_54, s174_55, s174_56, s174_57, s174_58, s174_59, s174_62, s174_64, s174_65, s174_66, s174_67, s174_68, s174_69, s174_72, s174_74, s174_75, s174_76, s174_77, s174_78, s174_79, s174_80, s174_83, s174_85, s174_86, s174_87, s174_88, s174_91, s174_92, s174_93, s174_94, s174_95, s174_98, s174_99, s174_101, z_lt_t, z_lt_f, z_le_t, z_le_f, z_lt0, z_ge0, z_cl, z_in, z_add, z_eq_f, z_ne0, z_00, z_10, z_01, z_11, z_neg1, z_nI_NONE, z_div, z_rem, z_rem2, sw_pu_s, sw_pu_n, true_and, and_true, true_or, or_true, if_true, if_false, not_true_eq_false, not_false_eq_true, h160, b]
  have b1 := eq_true b
  simp only [b1, if_true] at h63 h160
  obtain ⟨r, hr, rfl⟩ := sw_ib_of b (by omega)
  obtain ⟨r1, r2, r3, r4, r5⟩ := hV.2.2.1 r hr
  have y6 := (hW.2.2.2.2.2.1 r hr).2.2.2.2.2
  have h68 := fun d Q => k68 (d := d) (Q := Q) hV hW hr
  have h164 := fun d Q => k164 (d := d) (Q := Q) hT (by omega) hW hr
  have e2 := fun i (hi : i < 41) => hT.z i hi
  rcases (show w.toInt = 0 ∨ w.toInt = 1 ∨ w.toInt = 2 ∨ w.toInt = 3 ∨ w.toInt = 4 ∨ w.toInt < 0 ∨ 4 < w.toInt by omega) with h | h | h | h | h | h
  · refine Res_id hO hC hM (nI (T (25 + r))) (fun Q => ?_) (fun Q => ?_)
    · rw [c103]
      simp (disch := omega) only [s103_0, s103_1, s103_4, s103_5, s103_8, s103_11, s103_13, s103_14, s103_15, s103_48, s103_49, s103_52, s103_55, s103_56, s103_57, s103_58, s103_59, s103_62, s103_65, s103_66, s103_67, s103_68, s103_69, s103_72, s103_75, s103_76, s103_77, s103_78, s103_79, s103_82, s103_85, s103_86, s103_87, s103_88, s103_89, s103_92, s103_93, s103_96, s103_97, s103_99, z_lt_t, z_lt_f, z_le_t, z_le_f, z_lt0, z_ge0, z_cl, z_in, z_add, z_eq_f, z_ne0, z_00, z_10, z_01, z_11, z_neg1, z_nI_NONE, z_div, z_rem, z_rem2, sw_pu_s, sw_pu_n, true_and, and_true, true_or, or_true, if_true, if_false, not_true_eq_false, not_false_eq_true, h63, r1, z_pk_s, z_pk_n, ↓if_pos, ↓if_neg]
    · rw [c174]
      simp (disch := omega) only [s174_0, s174_1, s174_2, s174_5, s174_8, s174_10, s174_11, s174_12, s174_48, s174_49, s174_52, s174_54, s174_55, s174_56, s174_57, s174_58, s174_59, s174_62, s174_64, s174_65, s174_66, s174_67, s174_68, s174_69, s174_72, s174_74, s174_75, s174_76, s174_77, s174_78, s174_79, s174_80, s174_83, s174_85, s174_86, s174_87, s174_88, s174_91, s174_92, s174_93, s174_94, s174_95, s174_98, s174_99, s174_101, z_lt_t, z_lt_f, z_le_t, z_le_f, z_lt0, z_ge0, z_cl, z_in, z_add, z_eq_f, z_ne0, z_00, z_10, z_01, z_11, z_neg1, z_nI_NONE, z_div, z_rem, z_rem2, sw_pu_s, sw_pu_n, true_and, and_true, true_or, or_true, if_true, if_false, not_true_eq_false, not_false_eq_true, h160, e2, z_pk_s, z_pk_n, ↓if_pos, ↓if_neg]
  · refine Res_id hO hC hM (nI (T (29 + r))) (fun Q => ?_) (fun Q => ?_)
    · rw [c103]
      simp (disch := omega) only [s103_0, s103_1, s103_4, s103_5, s103_8, s103_11, s103_13, s103_14, s103_15, s103_48, s103_49, s103_52, s103_55, s103_56, s103_57, s103_58, s103_59, s103_62, s103_65, s103_66, s103_67, s103_68, s103_69, s103_72, s103_75, s103_76, s103_77, s103_78, s103_79, s103_82, s103_85, s103_86, s103_87, s103_88, s103_89, s103_92, s103_93, s103_96, s103_97, s103_99, z_lt_t, z_lt_f, z_le_t, z_le_f, z_lt0, z_ge0, z_cl, z_in, z_add, z_eq_f, z_ne0, z_00, z_10, z_01, z_11, z_neg1, z_nI_NONE, z_div, z_rem, z_rem2, sw_pu_s, sw_pu_n, true_and, and_true, true_or, or_true, if_true, if_false, not_true_eq_false, not_false_eq_true, h63, r2, z_pk_s, z_pk_n, ↓if_pos, ↓if_neg]
    · rw [c174]
      simp (disch := omega) only [s174_0, s174_1, s174_2, s174_5, s174_8, s174_10, s174_11, s174_12, s174_48, s174_49, s174_52, s174_54, s174_55, s174_56, s174_57, s174_58, s174_59, s174_62, s174_64, s174_65, s174_66, s174_67, s174_68, s174_69, s174_72, s174_74, s174_75, s174_76, s174_77, s174_78, s174_79, s174_80, s174_83, s174_85, s174_86, s174_87, s174_88, s174_91, s174_92, s174_93, s174_94, s174_95, s174_98, s174_99, s174_101, z_lt_t, z_lt_f, z_le_t, z_le_f, z_lt0, z_ge0, z_cl, z_in, z_add, z_eq_f, z_ne0, z_00, z_10, z_01, z_11, z_neg1, z_nI_NONE, z_div, z_rem, z_rem2, sw_pu_s, sw_pu_n, true_and, and_true, true_or, or_true, if_true, if_false, not_true_eq_false, not_false_eq_true, h160, e2, z_pk_s, z_pk_n, ↓if_pos, ↓if_neg]
  · refine Res_id hO hC hM (nI (T (33 + r))) (fun Q => ?_) (fun Q => ?_)
    · rw [c103]
      simp (disch := omega) only [s103_0, s103_1, s103_4, s103_5, s103_8, s103_11, s103_13, s103_14, s103_15, s103_48, s103_49, s103_52, s103_55, s103_56, s103_57, s103_58, s103_59, s103_62, s103_65, s103_66, s103_67, s103_68, s103_69, s103_72, s103_75, s103_76, s103_77, s103_78, s103_79, s103_82, s103_85, s103_86, s103_87, s103_88, s103_89, s103_92, s103_93, s103_96, s103_97, s103_99, z_lt_t, z_lt_f, z_le_t, z_le_f, z_lt0, z_ge0, z_cl, z_in, z_add, z_eq_f, z_ne0, z_00, z_10, z_01, z_11, z_neg1, z_nI_NONE, z_div, z_rem, z_rem2, sw_pu_s, sw_pu_n, true_and, and_true, true_or, or_true, if_true, if_false, not_true_eq_false, not_false_eq_true, h63, r3, z_pk_s, z_pk_n, ↓if_pos, ↓if_neg]
    · rw [c174]
      simp (disch := omega) only [s174_0, s174_1, s174_2, s174_5, s174_8, s174_10, s174_11, s174_12, s174_48, s174_49, s174_52, s174_54, s174_55, s174_56, s174_57, s174_58, s174_59, s174_62, s174_64, s174_65, s174_66, s174_67, s174_68, s174_69, s174_72, s174_74, s174_75, s174_76, s174_77, s174_78, s174_79, s174_80, s174_83, s174_85, s174_86, s174_87, s174_88, s174_91, s174_92, s174_93, s174_94, s174_95, s174_98, s174_99, s174_101, z_lt_t, z_lt_f, z_le_t, z_le_f, z_lt0, z_ge0, z_cl, z_in, z_add, z_eq_f, z_ne0, z_00, z_10, z_01, z_11, z_neg1, z_nI_NONE, z_div, z_rem, z_rem2, sw_pu_s, sw_pu_n, true_and, and_true, true_or, or_true, if_true, if_false, not_true_eq_false, not_false_eq_true, h160, e2, z_pk_s, z_pk_n, ↓if_pos, ↓if_neg]
  · refine Res_id hO hC hM (bn (T (37 + r))) (fun Q => ?_) (fun Q => ?_)
    · rw [c103]
      simp (disch := omega) only [s103_0, s103_1, s103_4, s103_5, s103_8, s103_11, s103_13, s103_14, s103_15, s103_48, s103_49, s103_52, s103_55, s103_56, s103_57, s103_58, s103_59, s103_62, s103_65, s103_66, s103_67, s103_68, s103_69, s103_72, s103_75, s103_76, s103_77, s103_78, s103_79, s103_82, s103_85, s103_86, s103_87, s103_88, s103_89, s103_92, s103_93, s103_96, s103_97, s103_99, z_lt_t, z_lt_f, z_le_t, z_le_f, z_lt0, z_ge0, z_cl, z_in, z_add, z_eq_f, z_ne0, z_00, z_10, z_01, z_11, z_neg1, z_nI_NONE, z_div, z_rem, z_rem2, sw_pu_s, sw_pu_n, true_and, and_true, true_or, or_true, if_true, if_false, not_true_eq_false, not_false_eq_true, h63, r5, z_pk_s, z_pk_n, ↓if_pos, ↓if_neg]
    · rw [c174]
      simp (disch := omega) only [s174_0, s174_1, s174_2, s174_5, s174_8, s174_10, s174_11, s174_12, s174_48, s174_49, s174_52, s174_54, s174_55, s174_56, s174_57, s174_58, s174_59, s174_62, s174_64, s174_65, s174_66, s174_67, s174_68, s174_69, s174_72, s174_74, s174_75, s174_76, s174_77, s174_78, s174_79, s174_80, s174_83, s174_85, s174_86, s174_87, s174_88, s174_91, s174_92, s174_93, s174_94, s174_95, s174_98, s174_99, s174_101, z_lt_t, z_lt_f, z_le_t, z_le_f, z_lt0, z_ge0, z_cl, z_in, z_add, z_eq_f, z_ne0, z_00, z_10, z_01, z_11, z_neg1, z_nI_NONE, z_div, z_rem, z_rem2, sw_pu_s, sw_pu_n, true_and, and_true, true_or, or_true, if_true, if_false, not_true_eq_false, not_false_eq_true, h160, e2, k173, z_pk_s, z_pk_n, ↓if_pos, ↓if_neg]
  · refine Res_id hO hC hM (nI (gnT T r)) (fun Q => ?_) (fun Q => ?_)
    · rw [c103]
      simp (disch := omega) only [s103_0, s103_1, s103_4, s103_5, s103_8, s103_11, s103_13, s103_14, s103_15, s103_48, s103_49, s103_52, s103_55, s103_56, s103_57, s103_58, s103_59, s103_62, s103_65, s103_66, s103_67, s103_68, s103_69, s103_72, s103_75, s103_76, s103_77, s103_78, s103_79, s103_82, s103_85, s103_86, s103_87, s103_88, s103_89, s103_92, s103_93, s103_96, s103_97, s103_99, z_lt_t, z_lt_f, z_le_t, z_le_f, z_lt0, z_ge0, z_cl, z_in, z_add, z_eq_f, z_ne0, z_00, z_10, z_01, z_11, z_neg1, z_nI_NONE, z_div, z_rem, z_rem2, sw_pu_s, sw_pu_n, true_and, and_true, true_or, or_true, if_true, if_false, not_true_eq_false, not_false_eq_true, h63, h68, z_pk_s, z_pk_n, ↓if_pos, ↓if_neg]
    · rw [c174]
      simp (disch := omega) only [s174_0, s174_1, s174_2, s174_5, s174_8, s174_10, s174_11, s174_12, s174_48, s174_49, s174_52, s174_54, s174_55, s174_56, s174_57, s174_58, s174_59, s174_62, s174_64, s174_65, s174_66, s174_67, s174_68, s174_69, s174_72, s174_74, s174_75, s174_76, s174_77, s174_78, s174_79, s174_80, s174_83, s174_85, s174_86, s174_87, s174_88, s174_91, s174_92, s174_93, s174_94, s174_95, s174_98, s174_99, s174_101, z_lt_t, z_lt_f, z_le_t, z_le_f, z_lt0, z_ge0, z_cl, z_in, z_add, z_eq_f, z_ne0, z_00, z_10, z_01, z_11, z_neg1, z_nI_NONE, z_div, z_rem, z_rem2, sw_pu_s, sw_pu_n, true_and, and_true, true_or, or_true, if_true, if_false, not_true_eq_false, not_false_eq_true, h160, h164, z_pk_s, z_pk_n, ↓if_pos, ↓if_neg]
  · refine Res_id hO hC hM (-1000001) (fun Q => ?_) (fun Q => ?_)
    · rw [c103]
      simp (disch := omega) only [s103_0, s103_1, s103_4, s103_5, s103_8, s103_11, s103_13, s103_14, s103_15, s103_48, s103_49, s103_52, s103_55, s103_56, s103_57, s103_58, s103_59, s103_62, s103_65, s103_66, s103_67, s103_68, s103_69, s103_72, s103_75, s103_76, s103_77, s103_78, s103_79, s103_82, s103_85, s103_86, s103_87, s103_88, s103_89, s103_92, s103_93, s103_96, s103_97, s103_99, z_lt_t, z_lt_f, z_le_t, z_le_f, z_lt0, z_ge0, z_cl, z_in, z_add, z_eq_f, z_ne0, z_00, z_10, z_01, z_11, z_neg1, z_nI_NONE, z_div, z_rem, z_rem2, sw_pu_s, sw_pu_n, true_and, and_true, true_or, or_true, if_true, if_false, not_true_eq_false, not_false_eq_true, h63, z_pk_s, z_pk_n, ↓if_pos, ↓if_neg]
    · rw [c174]
      simp (disch := omega) only [s174_0, s174_1, s174_2, s174_5, s174_8, s174_10, s174_11, s174_12, s174_48, s174_49, s174_52, s174_54, s174_55, s174_56, s174_57, s174_58, s174_59, s174_62, s174_64, s174_65, s174_66, s174_67, s174_68, s174_69, s174_72, s174_74, s174_75, s174_76, s174_77, s174_78, s174_79, s174_80, s174_83, s174_85, s174_86, s174_87, s174_88, s174_91, s174_92, s174_93, s174_94, s174_95, s174_98, s174_99, s174_101, z_lt_t, z_lt_f, z_le_t, z_le_f, z_lt0, z_ge0, z_cl, z_in, z_add, z_eq_f, z_ne0, z_00, z_10, z_01, z_11, z_neg1, z_nI_NONE, z_div, z_rem, z_rem2, sw_pu_s, sw_pu_n, true_and, and_true, true_or, or_true, if_true, if_false, not_true_eq_false, not_false_eq_true, h160, z_pk_s, z_pk_n, ↓if_pos, ↓if_neg]
theorem o_bed (x w : Int32) : Opp 104 175 [.int x, .int w] := by
  intro d T I π ρ τ ft sv θ M N hO hC hM
  have hV := hC.1
  have hT := hM.1.1
  have hW := hO.1.1
  have w1 := hW.2.1
  have w0 := hW.1
  have h64 := fun d Q => k64 (d := d) (Q := Q) hV hW x
  have h161 := fun d Q => k161 (d := d) (Q := Q) hT hW x
  by_cases b : sw_ib x (T 0)
  case neg =>
    have b := eq_false b
    refine Res_id hO hC hM (-1000001) (fun Q => ?_) (fun Q => ?_)
    · rw [c104]
      simp (disch := omega) only [s104_0, s104_1, s104_4, s104_5, s104_8, s104_11, s104_13, s104_14, s104_15, s104_48, s104_49, s104_52, s104_55, s104_56, s104_57, s104_58, s104_59, s104_60, s104_61, s104_64, s104_67, s104_68, s104_69, s104_70, s104_71, s104_72, s104_73, s104_76, s104_79, s104_80, s104_81, s104_82, s104_83, s104_84, s104_85, s104_88, s104_89, s104_92, s104_93, s104_94, s104_97, s104_100, s104_101, s104_102, s104_103, s104_105, z_lt_t, z_lt_f, z_le_t, z_le_f, z_lt0, z_ge0, z_cl, z_in, z_add, z_eq_f, z_ne0, z_00, z_10, z_01, z_11, z_neg1, z_nI_NONE, z_div, z_rem, z_rem2, sw_pu_s, sw_pu_n, true_and, and_true, true_or, or_true, if_true, if_false, not_true_eq_false, not_false_eq_true, h64, b]
    · rw [c175]
      simp (disch := omega) only [s175_0, s175_1, s175_2, s175_5, s175_8, s175_10, s175_11, s175_12, s175_48, s175_49, s175_52, s175_53, s175_54, s175_55, s175_56, s175_57, s175_58, s175_61, s175_63, s175_64, s175_65, s175_66, s175_67, s175_68, s175_71, s175_73, s175_74, s175_75, s175_76, s175_77, s175_78, s175_79, s175_80, s175_83, s175_84, s175_85, s175_88, s175_90, s175_91, s175_92, s175_93, s175_94, s175_96, z_lt_t, z_lt_f, z_le_t, z_le_f, z_lt0, z_ge0, z_cl, z_in, z_add, z_eq_f, z_ne0, z_00, z_10, z_01, z_11, z_neg1, z_nI_NONE, z_div, z_rem, z_rem2, sw_pu_s, sw_pu_n, true_and, and_true, true_or, or_true, if_true, if_false, not_true_eq_false, not_false_eq_true, h161, b]
  have b1 := eq_true b
  simp only [b1, if_true] at h64 h161
  obtain ⟨r, hr, rfl⟩ := sw_ib_of b (by omega)
  obtain ⟨r1, r2, r3, r5⟩ := hV.2.2.2 r hr
  have h66 := fun d Q => k66 (d := d) (Q := Q) hV hW (show r < 4 by omega)
  have h162 := fun d Q => k162 (d := d) (Q := Q) hT (by omega) hW (show r < 4 by omega)
  have e2 := fun i (hi : i < 41) => hT.z i hi
  rcases (show w.toInt = 0 ∨ w.toInt = 1 ∨ w.toInt = 2 ∨ w.toInt = 3 ∨ w.toInt = 4 ∨ w.toInt < 0 ∨ 4 < w.toInt by omega) with h | h | h | h | h | h
  · refine Res_id hO hC hM (nI (T (5 + r))) (fun Q => ?_) (fun Q => ?_)
    · rw [c104]
      simp (disch := omega) only [s104_0, s104_1, s104_4, s104_5, s104_8, s104_11, s104_13, s104_14, s104_15, s104_48, s104_49, s104_52, s104_55, s104_56, s104_57, s104_58, s104_59, s104_60, s104_61, s104_64, s104_67, s104_68, s104_69, s104_70, s104_71, s104_72, s104_73, s104_76, s104_79, s104_80, s104_81, s104_82, s104_83, s104_84, s104_85, s104_88, s104_89, s104_92, s104_93, s104_94, s104_97, s104_100, s104_101, s104_102, s104_103, s104_105, z_lt_t, z_lt_f, z_le_t, z_le_f, z_lt0, z_ge0, z_cl, z_in, z_add, z_eq_f, z_ne0, z_00, z_10, z_01, z_11, z_neg1, z_nI_NONE, z_div, z_rem, z_rem2, sw_pu_s, sw_pu_n, true_and, and_true, true_or, or_true, if_true, if_false, not_true_eq_false, not_false_eq_true, h64, r1, z_pk_s, z_pk_n, ↓if_pos, ↓if_neg]
    · rw [c175]
      simp (disch := omega) only [s175_0, s175_1, s175_2, s175_5, s175_8, s175_10, s175_11, s175_12, s175_48, s175_49, s175_52, s175_53, s175_54, s175_55, s175_56, s175_57, s175_58, s175_61, s175_63, s175_64, s175_65, s175_66, s175_67, s175_68, s175_71, s175_73, s175_74, s175_75, s175_76, s175_77, s175_78, s175_79, s175_80, s175_83, s175_84, s175_85, s175_88, s175_90, s175_91, s175_92, s175_93, s175_94, s175_96, z_lt_t, z_lt_f, z_le_t, z_le_f, z_lt0, z_ge0, z_cl, z_in, z_add, z_eq_f, z_ne0, z_00, z_10, z_01, z_11, z_neg1, z_nI_NONE, z_div, z_rem, z_rem2, sw_pu_s, sw_pu_n, true_and, and_true, true_or, or_true, if_true, if_false, not_true_eq_false, not_false_eq_true, h161, e2, z_pk_s, z_pk_n, ↓if_pos, ↓if_neg]
  · refine Res_id hO hC hM (nI (T (9 + r))) (fun Q => ?_) (fun Q => ?_)
    · rw [c104]
      simp (disch := omega) only [s104_0, s104_1, s104_4, s104_5, s104_8, s104_11, s104_13, s104_14, s104_15, s104_48, s104_49, s104_52, s104_55, s104_56, s104_57, s104_58, s104_59, s104_60, s104_61, s104_64, s104_67, s104_68, s104_69, s104_70, s104_71, s104_72, s104_73, s104_76, s104_79, s104_80, s104_81, s104_82, s104_83, s104_84, s104_85, s104_88, s104_89, s104_92, s104_93, s104_94, s104_97, s104_100, s104_101, s104_102, s104_103, s104_105, z_lt_t, z_lt_f, z_le_t, z_le_f, z_lt0, z_ge0, z_cl, z_in, z_add, z_eq_f, z_ne0, z_00, z_10, z_01, z_11, z_neg1, z_nI_NONE, z_div, z_rem, z_rem2, sw_pu_s, sw_pu_n, true_and, and_true, true_or, or_true, if_true, if_false, not_true_eq_false, not_false_eq_true, h64, r2, z_pk_s, z_pk_n, ↓if_pos, ↓if_neg]
    · rw [c175]
      simp (disch := omega) only [s175_0, s175_1, s175_2, s175_5, s175_8, s175_10, s175_11, s175_12, s175_48, s175_49, s175_52, s175_53, s175_54, s175_55, s175_56, s175_57, s175_58, s175_61, s175_63, s175_64, s175_65, s175_66, s175_67, s175_68, s175_71, s175_73, s175_74, s175_75, s175_76, s175_77, s175_78, s175_79, s175_80, s175_83, s175_84, s175_85, s175_88, s175_90, s175_91, s175_92, s175_93, s175_94, s175_96, z_lt_t, z_lt_f, z_le_t, z_le_f, z_lt0, z_ge0, z_cl, z_in, z_add, z_eq_f, z_ne0, z_00, z_10, z_01, z_11, z_neg1, z_nI_NONE, z_div, z_rem, z_rem2, sw_pu_s, sw_pu_n, true_and, and_true, true_or, or_true, if_true, if_false, not_true_eq_false, not_false_eq_true, h161, e2, z_pk_s, z_pk_n, ↓if_pos, ↓if_neg]
  · refine Res_id hO hC hM (nI (T (13 + r))) (fun Q => ?_) (fun Q => ?_)
    · rw [c104]
      simp (disch := omega) only [s104_0, s104_1, s104_4, s104_5, s104_8, s104_11, s104_13, s104_14, s104_15, s104_48, s104_49, s104_52, s104_55, s104_56, s104_57, s104_58, s104_59, s104_60, s104_61, s104_64, s104_67, s104_68, s104_69, s104_70, s104_71, s104_72, s104_73, s104_76, s104_79, s104_80, s104_81, s104_82, s104_83, s104_84, s104_85, s104_88, s104_89, s104_92, s104_93, s104_94, s104_97, s104_100, s104_101, s104_102, s104_103, s104_105, z_lt_t, z_lt_f, z_le_t, z_le_f, z_lt0, z_ge0, z_cl, z_in, z_add, z_eq_f, z_ne0, z_00, z_10, z_01, z_11, z_neg1, z_nI_NONE, z_div, z_rem, z_rem2, sw_pu_s, sw_pu_n, true_and, and_true, true_or, or_true, if_true, if_false, not_true_eq_false, not_false_eq_true, h64, r3, z_pk_s, z_pk_n, ↓if_pos, ↓if_neg]
    · rw [c175]
      simp (disch := omega) only [s175_0, s175_1, s175_2, s175_5, s175_8, s175_10, s175_11, s175_12, s175_48, s175_49, s175_52, s175_53, s175_54, s175_55, s175_56, s175_57, s175_58, s175_61, s175_63, s175_64, s175_65, s175_66, s175_67, s175_68, s175_71, s175_73, s175_74, s175_75, s175_76, s175_77, s175_78, s175_79, s175_80, s175_83, s175_84, s175_85, s175_88, s175_90, s175_91, s175_92, s175_93, s175_94, s175_96, z_lt_t, z_lt_f, z_le_t, z_le_f, z_lt0, z_ge0, z_cl, z_in, z_add, z_eq_f, z_ne0, z_00, z_10, z_01, z_11, z_neg1, z_nI_NONE, z_div, z_rem, z_rem2, sw_pu_s, sw_pu_n, true_and, and_true, true_or, or_true, if_true, if_false, not_true_eq_false, not_false_eq_true, h161, e2, z_pk_s, z_pk_n, ↓if_pos, ↓if_neg]
  · refine Res_id hO hC hM (bn (onB T r)) (fun Q => ?_) (fun Q => ?_)
    · rw [c104]
      simp (disch := omega) only [s104_0, s104_1, s104_4, s104_5, s104_8, s104_11, s104_13, s104_14, s104_15, s104_48, s104_49, s104_52, s104_55, s104_56, s104_57, s104_58, s104_59, s104_60, s104_61, s104_64, s104_67, s104_68, s104_69, s104_70, s104_71, s104_72, s104_73, s104_76, s104_79, s104_80, s104_81, s104_82, s104_83, s104_84, s104_85, s104_88, s104_89, s104_92, s104_93, s104_94, s104_97, s104_100, s104_101, s104_102, s104_103, s104_105, z_lt_t, z_lt_f, z_le_t, z_le_f, z_lt0, z_ge0, z_cl, z_in, z_add, z_eq_f, z_ne0, z_00, z_10, z_01, z_11, z_neg1, z_nI_NONE, z_div, z_rem, z_rem2, sw_pu_s, sw_pu_n, true_and, and_true, true_or, or_true, if_true, if_false, not_true_eq_false, not_false_eq_true, h64, h66, z_pk_s, z_pk_n, ↓if_pos, ↓if_neg]
    · rw [c175]
      simp (disch := omega) only [s175_0, s175_1, s175_2, s175_5, s175_8, s175_10, s175_11, s175_12, s175_48, s175_49, s175_52, s175_53, s175_54, s175_55, s175_56, s175_57, s175_58, s175_61, s175_63, s175_64, s175_65, s175_66, s175_67, s175_68, s175_71, s175_73, s175_74, s175_75, s175_76, s175_77, s175_78, s175_79, s175_80, s175_83, s175_84, s175_85, s175_88, s175_90, s175_91, s175_92, s175_93, s175_94, s175_96, z_lt_t, z_lt_f, z_le_t, z_le_f, z_lt0, z_ge0, z_cl, z_in, z_add, z_eq_f, z_ne0, z_00, z_10, z_01, z_11, z_neg1, z_nI_NONE, z_div, z_rem, z_rem2, sw_pu_s, sw_pu_n, true_and, and_true, true_or, or_true, if_true, if_false, not_true_eq_false, not_false_eq_true, h161, h162, z_pk_s, z_pk_n, ↓if_pos, ↓if_neg]
  · refine Res_id hO hC hM (nI (T (17 + r))) (fun Q => ?_) (fun Q => ?_)
    · rw [c104]
      simp (disch := omega) only [s104_0, s104_1, s104_4, s104_5, s104_8, s104_11, s104_13, s104_14, s104_15, s104_48, s104_49, s104_52, s104_55, s104_56, s104_57, s104_58, s104_59, s104_60, s104_61, s104_64, s104_67, s104_68, s104_69, s104_70, s104_71, s104_72, s104_73, s104_76, s104_79, s104_80, s104_81, s104_82, s104_83, s104_84, s104_85, s104_88, s104_89, s104_92, s104_93, s104_94, s104_97, s104_100, s104_101, s104_102, s104_103, s104_105, z_lt_t, z_lt_f, z_le_t, z_le_f, z_lt0, z_ge0, z_cl, z_in, z_add, z_eq_f, z_ne0, z_00, z_10, z_01, z_11, z_neg1, z_nI_NONE, z_div, z_rem, z_rem2, sw_pu_s, sw_pu_n, true_and, and_true, true_or, or_true, if_true, if_false, not_true_eq_false, not_false_eq_true, h64, r5, z_pk_s, z_pk_n, ↓if_pos, ↓if_neg]
    · rw [c175]
      simp (disch := omega) only [s175_0, s175_1, s175_2, s175_5, s175_8, s175_10, s175_11, s175_12, s175_48, s175_49, s175_52, s175_53, s175_54, s175_55, s175_56, s175_57, s175_58, s175_61, s175_63, s175_64, s175_65, s175_66, s175_67, s175_68, s175_71, s175_73, s175_74, s175_75, s175_76, s175_77, s175_78, s175_79, s175_80, s175_83, s175_84, s175_85, s175_88, s175_90, s175_91, s175_92, s175_93, s175_94, s175_96, z_lt_t, z_lt_f, z_le_t, z_le_f, z_lt0, z_ge0, z_cl, z_in, z_add, z_eq_f, z_ne0, z_00, z_10, z_01, z_11, z_neg1, z_nI_NONE, z_div, z_rem, z_rem2, sw_pu_s, sw_pu_n, true_and, and_true, true_or, or_true, if_true, if_false, not_true_eq_false, not_false_eq_true, h161, e2, z_pk_s, z_pk_n, ↓if_pos, ↓if_neg]
  · refine Res_id hO hC hM (-1000001) (fun Q => ?_) (fun Q => ?_)
    · rw [c104]
      simp (disch := omega) only [s104_0, s104_1, s104_4, s104_5, s104_8, s104_11, s104_13, s104_14, s104_15, s104_48, s104_49, s104_52, s104_55, s104_56, s104_57, s104_58, s104_59, s104_60, s104_61, s104_64, s104_67, s104_68, s104_69, s104_70, s104_71, s104_72, s104_73, s104_76, s104_79, s104_80, s104_81, s104_82, s104_83, s104_84, s104_85, s104_88, s104_89, s104_92, s104_93, s104_94, s104_97, s104_100, s104_101, s104_102, s104_103, s104_105, z_lt_t, z_lt_f, z_le_t, z_le_f, z_lt0, z_ge0, z_cl, z_in, z_add, z_eq_f, z_ne0, z_00, z_10, z_01, z_11, z_neg1, z_nI_NONE, z_div, z_rem, z_rem2, sw_pu_s, sw_pu_n, true_and, and_true, true_or, or_true, if_true, if_false, not_true_eq_false, not_false_eq_true, h64, z_pk_s, z_pk_n, ↓if_pos, ↓if_neg]
    · rw [c175]
      simp (disch := omega) only [s175_0, s175_1, s175_2, s175_5, s175_8, s175_10, s175_11, s175_12, s175_48, s175_49, s175_52, s175_53, s175_54, s175_55, s175_56, s175_57, s175_58, s175_61, s175_63, s175_64, s175_65, s175_66, s175_67, s175_68, s175_71, s175_73, s175_74, s175_75, s175_76, s175_77, s175_78, s175_79, s175_80, s175_83, s175_84, s175_85, s175_88, s175_90, s175_91, s175_92, s175_93, s175_94, s175_96, z_lt_t, z_lt_f, z_le_t, z_le_f, z_lt0, z_ge0, z_cl, z_in, z_add, z_eq_f, z_ne0, z_00, z_10, z_01, z_11, z_neg1, z_nI_NONE, z_div, z_rem, z_rem2, sw_pu_s, sw_pu_n, true_and, and_true, true_or, or_true, if_true, if_false, not_true_eq_false, not_false_eq_true, h161, z_pk_s, z_pk_n, ↓if_pos, ↓if_neg]
theorem o_trace (x : Int32) : Opp 121 218 [.int x] := by
  intro d T I π ρ τ ft sv θ M N hO hC hM
  obtain ⟨c1, c2⟩ := hC.2.2.2.2.2.2.2.1
  obtain ⟨m1, m2⟩ := hM.2.2.2.2.2.2.2
  have ho := hO.2.2.2.2.2
  have e1 := z_R1 (a := θ.2) (by omega)
  by_cases b : 0 ≤ x.toInt ∧ x.toInt < (θ.2 : Int)
  · obtain ⟨i, hi, rfl⟩ := sw_ib_of (x := x) (n := θ.2) (by rw [z_ibI]; omega) (by omega)
    have := c2 i hi
    have := m2 i hi
    refine Res_id hO hC hM (θ.1 i) (fun Q => ?_) (fun Q => ?_)
    · rw [c121]
      simp (disch := omega) only [s121_0, s121_1, s121_4, s121_5, s121_8, z_lt_t, z_lt_f, z_le_t, z_le_f, z_lt0, z_ge0, z_cl, z_in, z_add, z_eq_f, z_ne0, z_00, z_10, z_01, z_11, z_neg1, z_nI_NONE, z_div, z_rem, z_rem2, sw_pu_s, sw_pu_n, true_and, and_true, true_or, or_true, if_true, if_false, not_true_eq_false, not_false_eq_true, c4, s4_0, s4_1, s4_4, s4_5, s4_6, s4_9, s4_12, s4_13, s4_16, s4_17, s4_18, s4_21, s4_23, c1, c2 i hi]
    · rw [c218]
      simp (disch := omega) only [s218_0, s218_1, s218_2, s218_3, s218_4, s218_7, s218_8, s218_9, s218_10, s218_13, s218_16, s218_17, s218_20, s218_21, s218_22, s218_25, s218_27, z_lt_t, z_lt_f, z_le_t, z_le_f, z_lt0, z_ge0, z_cl, z_in, z_add, z_eq_f, z_ne0, z_00, z_10, z_01, z_11, z_neg1, z_nI_NONE, z_div, z_rem, z_rem2, sw_pu_s, sw_pu_n, true_and, and_true, true_or, or_true, if_true, if_false, not_true_eq_false, not_false_eq_true, k129, z_lT, z_xT, m1, e1, m2 i hi, z_TI, ↓if_pos, ↓if_neg]
  · refine Res_id hO hC hM (-1000000) (fun Q => ?_) (fun Q => ?_)
    · rw [c121]
      by_cases b2 : x.toInt < 0
      · simp (disch := omega) only [s121_0, s121_1, s121_4, s121_5, s121_8, z_lt_t, z_lt_f, z_le_t, z_le_f, z_lt0, z_ge0, z_cl, z_in, z_add, z_eq_f, z_ne0, z_00, z_10, z_01, z_11, z_neg1, z_nI_NONE, z_div, z_rem, z_rem2, sw_pu_s, sw_pu_n, true_and, and_true, true_or, or_true, if_true, if_false, not_true_eq_false, not_false_eq_true, c4, s4_0, s4_1, s4_4, s4_5, s4_6, s4_9, s4_12, s4_13, s4_16, s4_17, s4_18, s4_21, s4_23, c1, z_ltI, z_gtI, z_leI, z_geI, z_lt0I, z_ge0I, z_gt0I, z_le0I, z_ibI, Int32.toInt_zero, ↓if_pos, ↓if_neg]
      · simp (disch := omega) only [s121_0, s121_1, s121_4, s121_5, s121_8, z_lt_t, z_lt_f, z_le_t, z_le_f, z_lt0, z_ge0, z_cl, z_in, z_add, z_eq_f, z_ne0, z_00, z_10, z_01, z_11, z_neg1, z_nI_NONE, z_div, z_rem, z_rem2, sw_pu_s, sw_pu_n, true_and, and_true, true_or, or_true, if_true, if_false, not_true_eq_false, not_false_eq_true, c4, s4_0, s4_1, s4_4, s4_5, s4_6, s4_9, s4_12, s4_13, s4_16, s4_17, s4_18, s4_21, s4_23, c1, z_ltI, z_gtI, z_leI, z_geI, z_lt0I, z_ge0I, z_gt0I, z_le0I, z_ibI, Int32.toInt_zero, ↓if_pos, ↓if_neg]
    · rw [c218]
      simp (disch := omega) only [s218_0, s218_1, s218_2, s218_3, s218_4, s218_7, s218_8, s218_9, s218_10, s218_13, s218_16, s218_17, s218_20, s218_21, s218_22, s218_25, s218_27, z_lt_t, z_lt_f, z_le_t, z_le_f, z_lt0, z_ge0, z_cl, z_in, z_add, z_eq_f, z_ne0, z_00, z_10, z_01, z_11, z_neg1, z_nI_NONE, z_div, z_rem, z_rem2, sw_pu_s, sw_pu_n, true_and, and_true, true_or, or_true, if_true, if_false, not_true_eq_false, not_false_eq_true, k129, z_lT, z_xT, m1, e1, ↓if_pos, ↓if_neg]
end OPD
