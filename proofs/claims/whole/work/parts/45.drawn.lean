/-! draws -/
theorem q_rem {y k : Int64} (hy : 0 ≤ y.toInt) (hk : 0 < k.toInt) : (y - y / k * k).toInt = y.toInt % k.toInt := by
  have b1 := Int64.toInt_lt y
  have b2 := Int64.toInt_lt k
  have h1 : (y / k).toInt = y.toInt / k.toInt := by
    rw [Int64.toInt_div, Int.tdiv_eq_ediv_of_nonneg hy]
    have h0 := Int.ediv_nonneg hy (Int.le_of_lt hk)
    have h2 := Int.ediv_le_self k.toInt hy
    apply Int.bmod_eq_of_le <;> omega
  have e := Int.mul_ediv_add_emod y.toInt k.toInt
  have e1 := Int.emod_nonneg y.toInt (show k.toInt ≠ 0 by omega)
  have e2 := Int.emod_lt_of_pos y.toInt hk
  rw [Int.mul_comm] at e
  have h3 : (y / k * k).toInt = y.toInt / k.toInt * k.toInt := by
    have h0 := Int.mul_nonneg (Int.ediv_nonneg hy (Int.le_of_lt hk)) (Int.le_of_lt hk)
    rw [Int64.toInt_mul, h1]
    apply Int.bmod_eq_of_le <;> omega
  have h0 := Int.mul_nonneg (Int.ediv_nonneg hy (Int.le_of_lt hk)) (Int.le_of_lt hk)
  rw [Int64.toInt_sub, h3]
  have : y.toInt - y.toInt / k.toInt * k.toInt = y.toInt % k.toInt := by omega
  rw [this]
  apply Int.bmod_eq_of_le <;> omega
def jr (y : Int64) (t : Nat) : Nat := (y.toInt % (t : Int)).toNat
theorem jr_lt {y : Int64} {t : Nat} (h : 0 < t) : jr y t < t := by
  unfold jr
  have e1 := Int.emod_nonneg y.toInt (show (t : Int) ≠ 0 by omega)
  have e2 := Int.emod_lt_of_pos y.toInt (show 0 < (t : Int) by omega)
  omega
theorem q_idx {y : Int64} (hy : 0 ≤ y.toInt) {t : Nat} (h : 0 < t) (ht : t < 2 ^ 30) : (y - y / (nI t).toInt64 * (nI t).toInt64).toInt32 = nI (jr y t) := by
  have hk : ((nI t).toInt64).toInt = (t : Int) := by rw [z_xT, nI_toInt (by omega)]
  have hr := q_rem hy (show 0 < ((nI t).toInt64).toInt by omega)
  have hj := jr_lt (y := y) h
  apply Int32.toInt_inj.mp
  rw [Int64.toInt_toInt32, hr, hk, nI_toInt (by omega)]
  have e1 := Int.emod_nonneg y.toInt (show (t : Int) ≠ 0 by omega)
  have : ((jr y t : Nat) : Int) = y.toInt % (t : Int) := by
    unfold jr
    omega
  rw [this]
  apply Int.bmod_eq_of_le <;> omega
theorem q_kz {t : Nat} (h : 0 < t) (ht : t < 2 ^ 30) : ((nI t).toInt64 = 0) = False := by
  refine eq_false (fun q => ?_)
  have := congrArg Int64.toInt q
  rw [z_xT, nI_toInt (by omega)] at this
  have e : (0 : Int64).toInt = 0 := by decide
  omega
/-- the next draw -/
def nxd (y : Int64) : Int64 := y * lN 16807 - y * lN 16807 / lN 2147483647 * lN 2147483647
def okd (y : Int64) : Prop := 0 ≤ y.toInt ∧ y.toInt < 2147483647
theorem nxd_ok {y : Int64} (h : okd y) : okd (nxd y) := by
  have h1 : (lN 16807).toInt = 16807 := by decide
  have h2 : (lN 2147483647).toInt = 2147483647 := by decide
  have h3 : (y * lN 16807).toInt = y.toInt * 16807 := by
    obtain ⟨a, b⟩ := h
    rw [Int64.toInt_mul, h1]
    apply Int.bmod_eq_of_le <;> omega
  have h4 := q_rem (y := y * lN 16807) (k := lN 2147483647) (by rw [h3]; have := h.1; omega) (by rw [h2]; omega)
  unfold okd nxd
  rw [h4, h2]
  have e1 := Int.emod_nonneg ((y * lN 16807).toInt) (show (2147483647 : Int) ≠ 0 by omega)
  have e2 := Int.emod_lt_of_pos ((y * lN 16807).toInt) (show 0 < (2147483647 : Int) by omega)
  omega
theorem q_3 {y : Int64} (h : okd y) : (y - y / lN 3 * lN 3).toInt = y.toInt % 3 := by
  have h2 : (lN 3).toInt = 3 := by decide
  have := q_rem (y := y) (k := lN 3) h.1 (by rw [h2]; omega)
  rw [h2] at this
  exact this
theorem q_cmp0 {y : Int64} (h : okd y) {a : Nat} (ha : a < 3) : (lg_cmp (y - y / lN 3 * lN 3) (lN a) = 0) = (y.toInt % 3 = a) := by
  have h2 : (lN a).toInt = (a : Int) := z_lT (by omega)
  have h3 := q_3 h
  have h4 := z_lcmp_lt (y - y / lN 3 * lN 3) (lN a)
  have h5 := z_lcmp_gt (y - y / lN 3 * lN 3) (lN a)
  rw [h2, h3] at h4 h5
  have key : ∀ c : Int32, (c = 0) ↔ ¬ c < 0 ∧ ¬ 0 < c := by
    intro c
    constructor
    · intro e
      subst e
      exact ⟨Int32.lt_irrefl, Int32.lt_irrefl⟩
    · rintro ⟨e1, e2⟩
      apply Int32.toInt_inj.mp
      rw [Int32.lt_iff_toInt_lt, Int32.toInt_zero] at e1 e2
      rw [Int32.toInt_zero]
      omega
  rw [eq_iff_iff, key, h4, h5]
  omega
def dqT (T : Tw) (y : Int64) : Tw := if y.toInt % 3 = 0 ∧ 0 < T 1 then drT T (jr y (T 1)) else if y.toInt % 3 = 1 then drT T (4 + jr y (T 0)) else T
def dwX (f : Int64 → Int64) : Nat → Tw → Int64 → Tw
  | 0, T, _ => T
  | k + 1, T, y => dwX f k (psT (dqT T (f y))) (f y)
def dwH (f : Int64 → Int64) : Nat → Tw → Int64 → Nat
  | 0, _, _ => 0
  | k + 1, T, y => gsT (dqT T (f y)) + dwH f k (psT (dqT T (f y))) (f y)
theorem dwX_s (f : Int64 → Int64) (k : Nat) (T : Tw) (y : Int64) : dwX f (k + 1) T y = dwX f k (psT (dqT T (f y))) (f y) := rfl
theorem dwH_s (f : Int64 → Int64) (k : Nat) (T : Tw) (y : Int64) : dwH f (k + 1) T y = gsT (dqT T (f y)) + dwH f k (psT (dqT T (f y))) (f y) := rfl
theorem dwX_0 (f : Int64 → Int64) (T : Tw) (y : Int64) : dwX f 0 T y = T := rfl
theorem dwH_0 (f : Int64 → Int64) (T : Tw) (y : Int64) : dwH f 0 T y = 0 := rfl
theorem dqT_o {T : Tw} {y : Int64} (w0 : T 0 ≤ 4) (h0 : 0 < T 0) (w1 : T 1 ≤ 4) {i : Nat} (hi : i < 9 ∨ (13 ≤ i ∧ i < 29) ∨ 33 ≤ i) : dqT T y i = T i := by
  unfold dqT
  split
  · rename_i c
    have := jr_lt (y := y) c.2
    exact drT_o (by omega) hi
  · split
    · have := jr_lt (y := y) h0
      exact drT_o (by omega) hi
    · rfl
theorem WF_dq {T : Tw} {y : Int64} (hW : WF T) (h0 : 0 < T 0) : WF (dqT T y) := by
  have w0 := hW.1
  have w1 := hW.2.1
  unfold dqT
  split
  · rename_i c
    have := jr_lt (y := y) c.2
    exact WF_dr hW (by omega)
  · split
    · have := jr_lt (y := y) h0
      exact WF_dr hW (by omega)
    · exact hW
theorem FB_dq {T : Tw} {y : Int64} {F : Nat} (hF : FB T F) (w0 : T 0 ≤ 4) (w1 : T 1 ≤ 4) (h0 : 0 < T 0) : FB (dqT T y) F := by
  intro b hb
  rw [dqT_o w0 h0 w1 (by omega)] at hb
  rw [dqT_o w0 h0 w1 (by omega)]
  exact hF b hb
section DRW
variable {T : Tw} {M N : sw_Mem} {d : Nat} {Q : Option Value → sw_Mem → Prop}
theorem q_n0 (t : Nat) (h : t < 2 ^ 30) : (nI t ≤ 0) = (t = 0) := z_le0 (by omega)
theorem k27 (hV : IsV M 83 T) (hW : WF T) (h0 : 0 < T 0) {y : Int64} (hy : okd y) : ∃ M', IsV M' 83 (dqT T y) ∧ Off M M' 83 ∧ ∀ Q, sw_Cal (d + 1) 27 [.ref 82, .long y] M Q = Q none M' := by
  have w0 := hW.1
  have w1 := hW.2.1
  have g3 := hV.2.1.2.2.2.1
  have g4 := hV.2.1.2.2.2.2
  have c0 := q_cmp0 hy (a := 0) (by omega)
  have c1 := q_cmp0 hy (a := 1) (by omega)
  have z3 : (lN 3 = 0) = False := eq_false (by decide)
  have hj0 := jr_lt (y := y) h0
  by_cases a : y.toInt % 3 = 0
  · by_cases b : 0 < T 1
    · have hj := jr_lt (y := y) b
      refine ⟨sw_up M 85 (jr y (T 1)) (nI 9), ?_, ?_, fun Q => ?_⟩
      · unfold dqT
        rw [if_pos ⟨a, b⟩]
        exact IsV_st (v := 83) hV w0 w1 (Or.inl ⟨by omega, hj⟩)
      · exact fun k hk => z_up_n _ _ (by omega)
      · rw [c27]
        simp (disch := omega) only [s27_0, s27_1, s27_4, s27_5, s27_6, s27_7, s27_10, s27_11, s27_14, s27_17, s27_20, s27_21, s27_24, s27_27, s27_28, s27_29, s27_32, s27_35, s27_36, s27_37, s27_38, s27_40, s27_41, s27_42, s27_45, s27_46, s27_47, s27_48, s27_51, s27_52, s27_55, s27_58, s27_61, s27_62, s27_65, s27_68, s27_69, s27_70, s27_71, s27_74, s27_77, s27_78, s27_79, s27_80, s27_81, s27_83, s27_84, z_lt_t, z_lt_f, z_le_t, z_le_f, z_lt0, z_ge0, z_cl, z_in, z_add, z_eq_f, z_ne0, z_00, z_10, z_01, z_11, z_neg1, z_nI_NONE, z_div, z_rem, z_rem2, sw_pu_s, sw_pu_n, true_and, and_true, true_or, or_true, if_true, if_false, not_true_eq_false, not_false_eq_true, z3, c0, c1, g4, q_n0, q_kz, q_idx hy.1, kd_v.1, ↓if_pos, ↓if_neg]
    · refine ⟨M, ?_, Off.rf, fun Q => ?_⟩
      · unfold dqT
        rw [if_neg (by omega), if_neg (by omega)]
        exact hV
      · rw [c27]
        simp (disch := omega) only [s27_0, s27_1, s27_4, s27_5, s27_6, s27_7, s27_10, s27_11, s27_14, s27_17, s27_20, s27_21, s27_24, s27_27, s27_28, s27_29, s27_32, s27_35, s27_36, s27_37, s27_38, s27_40, s27_41, s27_42, s27_45, s27_46, s27_47, s27_48, s27_51, s27_52, s27_55, s27_58, s27_61, s27_62, s27_65, s27_68, s27_69, s27_70, s27_71, s27_74, s27_77, s27_78, s27_79, s27_80, s27_81, s27_83, s27_84, z_lt_t, z_lt_f, z_le_t, z_le_f, z_lt0, z_ge0, z_cl, z_in, z_add, z_eq_f, z_ne0, z_00, z_10, z_01, z_11, z_neg1, z_nI_NONE, z_div, z_rem, z_rem2, sw_pu_s, sw_pu_n, true_and, and_true, true_or, or_true, if_true, if_false, not_true_eq_false, not_false_eq_true, z3, c0, c1, g4, q_n0, kd_v.1, ↓if_pos, ↓if_neg]
  · by_cases b : y.toInt % 3 = 1
    · refine ⟨sw_up M 85 (4 + jr y (T 0)) (nI 9), ?_, ?_, fun Q => ?_⟩
      · unfold dqT
        rw [if_neg (by omega), if_pos b]
        exact IsV_st (v := 83) hV w0 w1 (Or.inr ⟨by omega, by omega⟩)
      · exact fun k hk => z_up_n _ _ (by omega)
      · rw [c27]
        simp (disch := omega) only [s27_0, s27_1, s27_4, s27_5, s27_6, s27_7, s27_10, s27_11, s27_14, s27_17, s27_20, s27_21, s27_24, s27_27, s27_28, s27_29, s27_32, s27_35, s27_36, s27_37, s27_38, s27_40, s27_41, s27_42, s27_45, s27_46, s27_47, s27_48, s27_51, s27_52, s27_55, s27_58, s27_61, s27_62, s27_65, s27_68, s27_69, s27_70, s27_71, s27_74, s27_77, s27_78, s27_79, s27_80, s27_81, s27_83, s27_84, z_lt_t, z_lt_f, z_le_t, z_le_f, z_lt0, z_ge0, z_cl, z_in, z_add, z_eq_f, z_ne0, z_00, z_10, z_01, z_11, z_neg1, z_nI_NONE, z_div, z_rem, z_rem2, sw_pu_s, sw_pu_n, true_and, and_true, true_or, or_true, if_true, if_false, not_true_eq_false, not_false_eq_true, z3, c0, c1, g3, q_n0, q_kz, q_idx hy.1, kd_v.1, ↓if_pos, ↓if_neg]
    · refine ⟨M, ?_, Off.rf, fun Q => ?_⟩
      · unfold dqT
        rw [if_neg (by omega), if_neg b]
        exact hV
      · rw [c27]
        simp (disch := omega) only [s27_0, s27_1, s27_4, s27_5, s27_6, s27_7, s27_10, s27_11, s27_14, s27_17, s27_20, s27_21, s27_24, s27_27, s27_28, s27_29, s27_32, s27_35, s27_36, s27_37, s27_38, s27_40, s27_41, s27_42, s27_45, s27_46, s27_47, s27_48, s27_51, s27_52, s27_55, s27_58, s27_61, s27_62, s27_65, s27_68, s27_69, s27_70, s27_71, s27_74, s27_77, s27_78, s27_79, s27_80, s27_81, s27_83, s27_84, z_lt_t, z_lt_f, z_le_t, z_le_f, z_lt0, z_ge0, z_cl, z_in, z_add, z_eq_f, z_ne0, z_00, z_10, z_01, z_11, z_neg1, z_nI_NONE, z_div, z_rem, z_rem2, sw_pu_s, sw_pu_n, true_and, and_true, true_or, or_true, if_true, if_false, not_true_eq_false, not_false_eq_true, z3, c0, c1, ↓if_pos, ↓if_neg]
end DRW
