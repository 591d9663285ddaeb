/-! the model's small methods -/
theorem z_lcmp_lt (x y : Int64) : (lg_cmp x y < 0) = (x.toInt < y.toInt) := by rw [eq_iff_iff, lg_cmp_lt, Int64.lt_iff_toInt_lt]
theorem z_lcmp_gt (x y : Int64) : (0 < lg_cmp x y) = (y.toInt < x.toInt) := by rw [eq_iff_iff, lg_cmp_gt, Int64.lt_iff_toInt_lt]
theorem z_lT {n : Nat} (h : n < 2 ^ 31) : (lN n).toInt = (n : Int) := lN_toInt h
theorem z_xT (x : Int32) : x.toInt64.toInt = x.toInt := Int32.toInt_toInt64 x
theorem z_ltI {x : Int32} {a : Nat} (h : a < 2 ^ 31) : (x < nI a) = (x.toInt < (a : Int)) := by rw [eq_iff_iff, Int32.lt_iff_toInt_lt, nI_toInt h]
theorem z_gtI {x : Int32} {a : Nat} (h : a < 2 ^ 31) : (nI a < x) = ((a : Int) < x.toInt) := by rw [eq_iff_iff, Int32.lt_iff_toInt_lt, nI_toInt h]
theorem z_leI {x : Int32} {a : Nat} (h : a < 2 ^ 31) : (x ≤ nI a) = (x.toInt ≤ (a : Int)) := by rw [eq_iff_iff, Int32.le_iff_toInt_le, nI_toInt h]
theorem z_geI {x : Int32} {a : Nat} (h : a < 2 ^ 31) : (nI a ≤ x) = ((a : Int) ≤ x.toInt) := by rw [eq_iff_iff, Int32.le_iff_toInt_le, nI_toInt h]
theorem z_lt0I (x : Int32) : (x < 0) = (x.toInt < 0) := by rw [eq_iff_iff, Int32.lt_iff_toInt_lt, Int32.toInt_zero]
theorem z_ge0I (x : Int32) : (0 ≤ x) = (0 ≤ x.toInt) := by rw [eq_iff_iff, Int32.le_iff_toInt_le, Int32.toInt_zero]
theorem z_gt0I (x : Int32) : (0 < x) = (0 < x.toInt) := by rw [eq_iff_iff, Int32.lt_iff_toInt_lt, Int32.toInt_zero]
theorem z_le0I (x : Int32) : (x ≤ 0) = (x.toInt ≤ 0) := by rw [eq_iff_iff, Int32.le_iff_toInt_le, Int32.toInt_zero]
theorem z_ibI {x : Int32} {n : Nat} : sw_ib x n = (0 ≤ x.toInt ∧ x.toInt < n) := propext vp_in_iff
theorem z_m1T : (-1 : Int32).toInt = -1 := by decide
theorem z_R1 {a : Nat} (h : a < 2 ^ 30) : (nI a - nI 1).toInt = (a : Int) - 1 := by rw [z_subI h (by decide)]; rfl
theorem z_pm (k : Nat) : nI (k + 1) + (-1) = nI k := pk_m1 k
theorem z_0m : ((nI 0 + (-1) : Int32) < 0) = True := eq_true (by decide)
theorem z_sm (a : Nat) : nI a - nI 1 = nI a + (-1) := by rw [show nI 1 = 1 from rfl, Int32.sub_eq_add_neg]
section MOD
variable {d B : Nat} {M : sw_Mem} {T : Tw} {Q : Option Value → sw_Mem → Prop}
theorem k129 (a b c : Int64) : sw_Cal (d + 1) 129 [.long a, .long b, .long c] M Q = if b.toInt ≤ a.toInt ∧ a.toInt ≤ c.toInt then Q (some (.int (nI 1))) M else Q (some (.int (nI 0))) M := by
  rw [c129]
  simp (disch := omega) only [s129_0, s129_1, s129_2, s129_3, s129_6, s129_7, s129_9, s129_10, s129_13, s129_14, s129_17, s129_18, z_lt_t, z_lt_f, z_le_t, z_le_f, z_lt0, z_ge0, z_cl, z_in, z_add, z_eq_f, z_ne0, z_00, z_10, z_01, z_11, z_neg1, z_nI_NONE, z_div, z_rem, z_rem2, sw_pu_s, sw_pu_n, true_and, and_true, true_or, or_true, if_true, if_false, not_true_eq_false, not_false_eq_true, z_lcmp_lt, z_lcmp_gt]
  by_cases h : a.toInt < b.toInt
  · rw [if_pos h, if_neg (by omega)]
  · rw [if_neg h]
    by_cases h2 : c.toInt < a.toInt
    · rw [if_pos h2, if_neg (by omega)]
    · rw [if_neg h2, if_pos (by omega)]
theorem k131 {a b : Nat} (ha : a < 2 ^ 30) (hb : b < 2 ^ 30) : sw_Cal (d + 1) 131 [.int (nI a), .int (nI b)] M Q = Q (some (.int (nI (df a b)))) M := by
  rw [c131]
  unfold df
  by_cases h : a < b
  · simp (disch := omega) only [s131_0, s131_1, s131_2, s131_5, s131_6, s131_7, s131_8, s131_11, s131_12, s131_13, s131_14, z_lt_t, z_lt_f, z_le_t, z_le_f, z_lt0, z_ge0, z_cl, z_in, z_add, z_eq_f, z_ne0, z_00, z_10, z_01, z_11, z_neg1, z_nI_NONE, z_div, z_rem, z_rem2, sw_pu_s, sw_pu_n, true_and, and_true, true_or, or_true, if_true, if_false, not_true_eq_false, not_false_eq_true, h, z_sub]
  · rw [if_neg h]
    simp (disch := omega) only [s131_0, s131_1, s131_2, s131_5, s131_6, s131_7, s131_8, s131_11, s131_12, s131_13, s131_14, z_lt_t, z_lt_f, z_le_t, z_le_f, z_lt0, z_ge0, z_cl, z_in, z_add, z_eq_f, z_ne0, z_00, z_10, z_01, z_11, z_neg1, z_nI_NONE, z_div, z_rem, z_rem2, sw_pu_s, sw_pu_n, true_and, and_true, true_or, or_true, if_true, if_false, not_true_eq_false, not_false_eq_true, z_sub]
theorem k132 {a b : Nat} (ha : a < 2 ^ 30) (hb : b < 2 ^ 30) : sw_Cal (d + 1) 132 [.int (nI a - nI b)] M Q = Q (some (.int (nI (a - b)))) M := by
  have h1 := z_subI ha hb
  rw [c132]
  by_cases h : a < b
  · simp (disch := omega) only [s132_0, s132_1, s132_4, s132_5, s132_8, s132_9, z_lt_t, z_lt_f, z_le_t, z_le_f, z_lt0, z_ge0, z_cl, z_in, z_add, z_eq_f, z_ne0, z_00, z_10, z_01, z_11, z_neg1, z_nI_NONE, z_div, z_rem, z_rem2, sw_pu_s, sw_pu_n, true_and, and_true, true_or, or_true, if_true, if_false, not_true_eq_false, not_false_eq_true, z_ge0I, h1, show ¬ (0 : Int) ≤ (a : Int) - b by omega, Nat.sub_eq_zero_of_le (Nat.le_of_lt h)]
  · rw [z_sub (by omega)]
    simp (disch := omega) only [s132_0, s132_1, s132_4, s132_5, s132_8, s132_9, z_lt_t, z_lt_f, z_le_t, z_le_f, z_lt0, z_ge0, z_cl, z_in, z_add, z_eq_f, z_ne0, z_00, z_10, z_01, z_11, z_neg1, z_nI_NONE, z_div, z_rem, z_rem2, sw_pu_s, sw_pu_n, true_and, and_true, true_or, or_true, if_true, if_false, not_true_eq_false, not_false_eq_true]
theorem k132b {a b : Nat} (ha : a < 2 ^ 30) (hb : b < 2 ^ 30) (c : Nat) (hc : c < 2 ^ 30) : sw_Cal (d + 1) 132 [.int (nI a - nI b - nI c)] M Q = Q (some (.int (nI (a - b - c)))) M := by
  have h1 : nI a - nI b - nI c = nI a - nI (b + c) := by rw [← z_add, Int32.sub_sub]
  rcases Nat.lt_or_ge (b + c) (2 ^ 30) with q | q
  · rw [h1, k132 ha q, Nat.sub_sub]
  · have h2 : (nI a - nI b - nI c).toInt = (a : Int) - b - c := by
      have e1 := z_subI ha hb
      rw [Int32.toInt_sub, e1, nI_toInt (by omega)]
      apply Int.bmod_eq_of_le <;> omega
    rw [c132]
    simp (disch := omega) only [s132_0, s132_1, s132_4, s132_5, s132_8, s132_9, z_lt_t, z_lt_f, z_le_t, z_le_f, z_lt0, z_ge0, z_cl, z_in, z_add, z_eq_f, z_ne0, z_00, z_10, z_01, z_11, z_neg1, z_nI_NONE, z_div, z_rem, z_rem2, sw_pu_s, sw_pu_n, true_and, and_true, true_or, or_true, if_true, if_false, not_true_eq_false, not_false_eq_true, z_ge0I, h2, show ¬ (0 : Int) ≤ (a : Int) - b - c by omega, show a - b - c = 0 by omega]
theorem k133 {w : Nat} (hw : w < 100) : sw_Cal (d + 1) 133 [.ref 0, .int (nI w)] M Q = Q (some (.int (-1000010 - nI w))) (sw_up M 0 10 (nI w)) := by
  rw [c133]
  simp (disch := omega) only [s133_0, s133_1, s133_2, s133_5, s133_7, s133_8, s133_9, z_lt_t, z_lt_f, z_le_t, z_le_f, z_lt0, z_ge0, z_cl, z_in, z_add, z_eq_f, z_ne0, z_00, z_10, z_01, z_11, z_neg1, z_nI_NONE, z_div, z_rem, z_rem2, sw_pu_s, sw_pu_n, true_and, and_true, true_or, or_true, if_true, if_false, not_true_eq_false, not_false_eq_true]
theorem k134 (x : Int32) : sw_Cal (d + 1) 134 [.ref 0, .int x] M Q = Q (some (.int x)) (sw_up M 0 10 (nI 0)) := by
  rw [c134]
  simp (disch := omega) only [s134_0, s134_1, s134_2, s134_5, s134_6, z_lt_t, z_lt_f, z_le_t, z_le_f, z_lt0, z_ge0, z_cl, z_in, z_add, z_eq_f, z_ne0, z_00, z_10, z_01, z_11, z_neg1, z_nI_NONE, z_div, z_rem, z_rem2, sw_pu_s, sw_pu_n, true_and, and_true, true_or, or_true, if_true, if_false, not_true_eq_false, not_false_eq_true]
theorem k135 (x : Int32) : sw_Cal (d + 2) 135 [.int x] M Q = if sw_ib x 8 then Q (some (.int (nI 1))) M else Q (some (.int (nI 0))) M := by
  rw [c135]
  simp (disch := omega) only [s135_0, s135_1, s135_2, s135_3, s135_6, s135_9, z_lt_t, z_lt_f, z_le_t, z_le_f, z_lt0, z_ge0, z_cl, z_in, z_add, z_eq_f, z_ne0, z_00, z_10, z_01, z_11, z_neg1, z_nI_NONE, z_div, z_rem, z_rem2, sw_pu_s, sw_pu_n, true_and, and_true, true_or, or_true, if_true, if_false, not_true_eq_false, not_false_eq_true, k129, z_lT, z_xT, z_ibI]
  by_cases h : 0 ≤ x.toInt ∧ x.toInt < (8 : Nat)
  · rw [if_pos h, if_pos (by omega)]
  · rw [if_neg h, if_neg (by omega)]
/-- the model's town at B -/
def IsM (M : sw_Mem) (B : Nat) (T : Tw) : Prop := ∀ i, i < 41 → M 1 (B + i) = nI (T i)
theorem IsM.at (h : IsM M B T) (i : Nat) (hi : i < 41) : M 1 (B + i) = nI (T i) := h i hi
theorem IsM.at2 (h : IsM M B T) (i j : Nat) (hi : i + j < 41) : M 1 (B + i + j) = nI (T (i + j)) := by rw [Nat.add_assoc]; exact h _ hi
theorem IsM.z (h : IsM M 0 T) (i : Nat) (hi : i < 41) : M 1 i = nI (T i) := by have := h i hi; rwa [Nat.zero_add] at this
theorem IsM.up (h : IsM M B T) (i x : Nat) : IsM (sw_up M 1 (B + i) (nI x)) B (upT T i x) := by
  intro j hj
  by_cases e : j = i
  · subst e
    rw [z_up_s, upT_s]
  · rw [z_up_j _ _ (by omega), upT_n _ _ e, h j hj]
theorem k160 (hM : IsM M 0 T) (hW : WF T) (x : Int32) : sw_Cal (d + 2) 160 [.ref 0, .int x] M Q = if sw_ib x (T 1) then Q (some (.int (nI 1))) M else Q (some (.int (nI 0))) M := by
  have h1 := hM.z 1 (by omega)
  have w1 := hW.2.1
  have e1 := z_R1 (a := T 1) (by omega)
  rw [c160]
  simp (disch := omega) only [s160_0, s160_1, s160_2, s160_3, s160_4, s160_7, s160_8, s160_9, s160_10, s160_11, s160_12, s160_15, z_lt_t, z_lt_f, z_le_t, z_le_f, z_lt0, z_ge0, z_cl, z_in, z_add, z_eq_f, z_ne0, z_00, z_10, z_01, z_11, z_neg1, z_nI_NONE, z_div, z_rem, z_rem2, sw_pu_s, sw_pu_n, true_and, and_true, true_or, or_true, if_true, if_false, not_true_eq_false, not_false_eq_true, h1, k129, z_lT, z_xT, z_ibI, e1]
  by_cases h : 0 ≤ x.toInt ∧ x.toInt < (T 1 : Nat)
  · rw [if_pos h, if_pos (by omega)]
  · rw [if_neg h, if_neg (by omega)]
theorem k161 (hM : IsM M 0 T) (hW : WF T) (x : Int32) : sw_Cal (d + 2) 161 [.ref 0, .int x] M Q = if sw_ib x (T 0) then Q (some (.int (nI 1))) M else Q (some (.int (nI 0))) M := by
  have h1 := hM.z 0 (by omega)
  have w0 := hW.1
  have e1 := z_R1 (a := T 0) (by omega)
  rw [c161]
  simp (disch := omega) only [s161_0, s161_1, s161_2, s161_3, s161_4, s161_7, s161_8, s161_9, s161_10, s161_11, s161_12, s161_15, z_lt_t, z_lt_f, z_le_t, z_le_f, z_lt0, z_ge0, z_cl, z_in, z_add, z_eq_f, z_ne0, z_00, z_10, z_01, z_11, z_neg1, z_nI_NONE, z_div, z_rem, z_rem2, sw_pu_s, sw_pu_n, true_and, and_true, true_or, or_true, if_true, if_false, not_true_eq_false, not_false_eq_true, h1, k129, z_lT, z_xT, z_ibI, e1]
  by_cases h : 0 ≤ x.toInt ∧ x.toInt < (T 0 : Nat)
  · rw [if_pos h, if_pos (by omega)]
  · rw [if_neg h, if_neg (by omega)]
def od (T : Tw) (b : Nat) : Nat → Nat → Nat
  | 0, on => on
  | k + 1, on => od T b k (if T (37 + k) = b then k else on)
theorem onF_snoc (T : Tw) (b : Nat) : ∀ k r, r + k < 4 → onF T b (k + 1) r = if onF T b k r = 4 then (if T (37 + (r + k)) = b then r + k else 4) else onF T b k r := by
  intro k
  induction k with
  | zero => intro r hr; rw [onF_s]; rfl
  | succ k ih =>
    intro r hr
    rw [onF_s, onF_s T b k r, ih (r + 1) (by omega)]
    by_cases h : T (37 + r) = b
    · rw [if_pos h, if_pos h, if_neg (by omega)]
    · rw [if_neg h, if_neg h, show r + (k + 1) = r + 1 + k by omega]
theorem od_eq (T : Tw) (b : Nat) : ∀ k on, k ≤ 4 → od T b k on = if onF T b k 0 = 4 then on else onF T b k 0 := by
  intro k
  induction k with
  | zero => intro on _; rfl
  | succ k ih =>
    intro on hk
    show od T b k _ = _
    rw [ih _ (by omega), onF_snoc T b k 0 (by omega), Nat.zero_add]
    by_cases h : onF T b k 0 = 4
    · rw [if_pos h, if_pos h]
      by_cases h2 : T (37 + k) = b
      · rw [if_pos h2, if_pos h2, if_neg (by omega)]
      · rw [if_neg h2, if_neg h2, if_pos rfl]
    · rw [if_neg h, if_neg h, if_neg h]
theorem k162L (hM : IsM M B T) (hB : B ≤ 1107) (h1 : T 1 ≤ 4) (hl : ∀ r, r < T 1 → T (37 + r) < 2 ^ 31) {b : Nat} (hb : b < 4) : ∀ k on, k ≤ T 1 → sw_WP d 162 15 [.ref 0, .int (nI B), .int (nI b), .int (bn on), .int (nI k + (-1))] [] M Q = Q (some (.int (bn (od T b k on)))) M := by
  intro k
  induction k with
  | zero =>
    intro on hk
    rw [s162_15]
    simp (disch := omega) only [s162_0, s162_2, s162_3, s162_4, s162_7, s162_8, s162_9, s162_10, s162_11, s162_12, s162_13, s162_17, s162_20, s162_21, s162_24, s162_25, s162_27, s162_28, s162_30, s162_31, s162_32, s162_33, s162_36, s162_38, s162_41, s162_42, s162_43, s162_46, s162_49, s162_50, z_lt_t, z_lt_f, z_le_t, z_le_f, z_lt0, z_ge0, z_cl, z_in, z_add, z_eq_f, z_ne0, z_00, z_10, z_01, z_11, z_neg1, z_nI_NONE, z_div, z_rem, z_rem2, sw_pu_s, sw_pu_n, true_and, and_true, true_or, or_true, if_true, if_false, not_true_eq_false, not_false_eq_true, z_0m]
    rfl
  | succ k ih =>
    intro on hk
    have hr := hM.at2 37 k (by omega)
    have := hl k (by omega)
    rw [s162_15]
    simp (disch := omega) only [s162_0, s162_2, s162_3, s162_4, s162_7, s162_8, s162_9, s162_10, s162_11, s162_12, s162_13, s162_17, s162_20, s162_21, s162_24, s162_25, s162_27, s162_28, s162_30, s162_31, s162_32, s162_33, s162_36, s162_38, s162_41, s162_42, s162_43, s162_46, s162_49, s162_50, z_lt_t, z_lt_f, z_le_t, z_le_f, z_lt0, z_ge0, z_cl, z_in, z_add, z_eq_f, z_ne0, z_00, z_10, z_01, z_11, z_neg1, z_nI_NONE, z_div, z_rem, z_rem2, sw_pu_s, sw_pu_n, true_and, and_true, true_or, or_true, if_true, if_false, not_true_eq_false, not_false_eq_true, z_pm, hr, z_eq]
    show _ = Q (some (.int (bn (od T b k (if T (37 + k) = b then k else on))))) M
    by_cases h : T (37 + k) = b
    · rw [if_pos h, ← ih _ (by omega), bn_n (x := k) (by omega)]
      simp only [h, not_true_eq_false, if_false]
    · rw [if_neg h, ← ih _ (by omega)]
      simp only [h, not_false_eq_true, if_true]
theorem k162 (hM : IsM M B T) (hB : B ≤ 1107) (hW : WF T) {b : Nat} (hb : b < 4) : sw_Cal (d + 1) 162 [.ref 0, .int (nI B), .int (nI b)] M Q = Q (some (.int (bn (onB T b)))) M := by
  have hL := k162L (d := d) (Q := Q) hM hB hW.2.1 (fun r hr => by have := (hW.2.2.2.2.2.1 r hr).2.2.2.2.2; have := hW.1; omega) hb (T 1) 4 (Nat.le_refl _)
  rw [od_eq _ _ _ _ hW.2.1, bn_4] at hL
  have e : (if onF T b (T 1) 0 = 4 then 4 else onF T b (T 1) 0) = onB T b := by unfold onB; split <;> simp [*]
  rw [e] at hL
  have h1 := hM.at 1 (by omega)
  have w1 := hW.2.1
  rw [c162]
  simp (disch := omega) only [s162_0, s162_2, s162_3, s162_4, s162_7, s162_8, s162_9, s162_10, s162_11, s162_12, s162_13, s162_17, s162_20, s162_21, s162_24, s162_25, s162_27, s162_28, s162_30, s162_31, s162_32, s162_33, s162_36, s162_38, s162_41, s162_42, s162_43, s162_46, s162_49, s162_50, z_lt_t, z_lt_f, z_le_t, z_le_f, z_lt0, z_ge0, z_cl, z_in, z_add, z_eq_f, z_ne0, z_00, z_10, z_01, z_11, z_neg1, z_nI_NONE, z_div, z_rem, z_rem2, sw_pu_s, sw_pu_n, true_and, and_true, true_or, or_true, if_true, if_false, not_true_eq_false, not_false_eq_true, h1, z_sm, hL]
set_option maxHeartbeats 1000000 in
theorem k163 (hM : IsM M B T) (hB : B ≤ 1107) (hW : WF T) {r b : Nat} (hr : r < T 1) (hb : b < T 0) : sw_Cal (d + 2) 163 [.ref 0, .int (nI B), .int (nI r), .int (nI b)] M Q = Q (some (.int (nI (grT T r b)))) M := by
  have hg := gip_le hW hr hb
  obtain ⟨w0, w1, -, w3, w4, wr, wb, -⟩ := hW
  obtain ⟨y1, y2, y3, y4, y5, -⟩ := wr r hr
  obtain ⟨z1, z2, z3⟩ := wb b hb
  have r1 := hM.at2 25 r (by omega)
  have r2 := hM.at2 29 r (by omega)
  have r3 := hM.at2 33 r (by omega)
  have r4 := hM.at2 21 r (by omega)
  have b1 := hM.at2 5 b (by omega)
  have b2 := hM.at2 9 b (by omega)
  have b3 := hM.at2 13 b (by omega)
  have g3 := hM.at 3 (by omega)
  have g4 := hM.at 4 (by omega)
  have hdf : df (T (25 + r)) (T (5 + b)) ≤ 9 := by unfold df; split <;> omega
  have hdf2 : df (T (33 + r)) (T (13 + b)) ≤ 9 := by unfold df; split <;> omega
  have hend : ∀ x4 x5 g, g ≤ 36 → sw_WP (d + 1) 163 129 [.ref 0, .int (nI B), .int (nI r), .int (nI b), .int x4, .int x5, .int (nI g)] [] M Q = Q (some (.int (nI (if T 3 < df (T (33 + r)) (T (13 + b)) then g / 2 else g)))) M := by
    intro x4 x5 g hgg
    simp (disch := omega) only [s163_129, s163_130, s163_133, s163_134, s163_136, s163_137, s163_138, s163_139, s163_140, s163_141, s163_144, s163_145, s163_147, s163_148, s163_149, s163_150, s163_151, s163_154, s163_155, s163_158, s163_159, s163_160, s163_161, s163_162, s163_165, s163_167, s163_168, s163_169, s163_172, s163_174, z_lt_t, z_lt_f, z_le_t, z_le_f, z_lt0, z_ge0, z_cl, z_in, z_add, z_eq_f, z_ne0, z_00, z_10, z_01, z_11, z_neg1, z_nI_NONE, z_div, z_rem, z_rem2, sw_pu_s, sw_pu_n, true_and, and_true, true_or, or_true, if_true, if_false, not_true_eq_false, not_false_eq_true, r3, b3, k131, g3]
    by_cases h : T 3 < df (T (33 + r)) (T (13 + b))
    · simp (disch := omega) only [s163_129, s163_130, s163_133, s163_134, s163_136, s163_137, s163_138, s163_139, s163_140, s163_141, s163_144, s163_145, s163_147, s163_148, s163_149, s163_150, s163_151, s163_154, s163_155, s163_158, s163_159, s163_160, s163_161, s163_162, s163_165, s163_167, s163_168, s163_169, s163_172, s163_174, z_lt_t, z_lt_f, z_le_t, z_le_f, z_lt0, z_ge0, z_cl, z_in, z_add, z_eq_f, z_ne0, z_00, z_10, z_01, z_11, z_neg1, z_nI_NONE, z_div, z_rem, z_rem2, sw_pu_s, sw_pu_n, true_and, and_true, true_or, or_true, if_true, if_false, not_true_eq_false, not_false_eq_true, h]
    · rw [if_neg h]
      simp (disch := omega) only [s163_129, s163_130, s163_133, s163_134, s163_136, s163_137, s163_138, s163_139, s163_140, s163_141, s163_144, s163_145, s163_147, s163_148, s163_149, s163_150, s163_151, s163_154, s163_155, s163_158, s163_159, s163_160, s163_161, s163_162, s163_165, s163_167, s163_168, s163_169, s163_172, s163_174, z_lt_t, z_lt_f, z_le_t, z_le_f, z_lt0, z_ge0, z_cl, z_in, z_add, z_eq_f, z_ne0, z_00, z_10, z_01, z_11, z_neg1, z_nI_NONE, z_div, z_rem, z_rem2, sw_pu_s, sw_pu_n, true_and, and_true, true_or, or_true, if_true, if_false, not_true_eq_false, not_false_eq_true]
  rw [c163]
  simp (disch := omega) only [s163_0, s163_1, s163_4, s163_5, s163_7, s163_8, s163_9, s163_10, s163_11, s163_13, s163_14, s163_17, s163_18, s163_20, s163_21, s163_22, s163_23, s163_24, s163_26, s163_27, s163_30, s163_31, s163_33, s163_34, s163_35, s163_36, s163_37, s163_39, s163_40, s163_41, s163_44, s163_45, s163_47, s163_48, s163_49, s163_50, s163_51, s163_52, s163_55, s163_56, s163_57, s163_58, s163_59, s163_60, s163_61, s163_64, s163_65, s163_68, z_lt_t, z_lt_f, z_le_t, z_le_f, z_lt0, z_ge0, z_cl, z_in, z_add, z_eq_f, z_ne0, z_00, z_10, z_01, z_11, z_neg1, z_nI_NONE, z_div, z_rem, z_rem2, sw_pu_s, sw_pu_n, true_and, and_true, true_or, or_true, if_true, if_false, not_true_eq_false, not_false_eq_true, r4, b2, r2, r1, b1, k131, k132]
  unfold grT gip at *
  generalize T (21 + r) = k at y1 y2 hg ⊢
  rcases (show k = 1 ∨ k = 2 ∨ k = 3 ∨ k = 4 ∨ k = 5 by omega) with rfl | rfl | rfl | rfl | rfl
  · simp (disch := omega) only [s163_70, s163_72, s163_73, s163_76, s163_77, s163_79, s163_80, s163_83, s163_85, s163_86, s163_89, s163_91, s163_92, s163_93, s163_96, s163_98, s163_100, s163_102, s163_104, s163_105, s163_108, s163_109, s163_112, s163_113, s163_114, s163_115, s163_116, s163_117, s163_118, s163_121, s163_122, s163_125, s163_126, s163_127, z_lt_t, z_lt_f, z_le_t, z_le_f, z_lt0, z_ge0, z_cl, z_in, z_add, z_eq_f, z_ne0, z_00, z_10, z_01, z_11, z_neg1, z_nI_NONE, z_div, z_rem, z_rem2, sw_pu_s, sw_pu_n, true_and, and_true, true_or, or_true, if_true, if_false, not_true_eq_false, not_false_eq_true, hend, show ¬ (1 = 2) by decide, show ¬ (1 = 4) by decide, show ¬ (1 = 5) by decide, Nat.add_zero]
  · simp (disch := omega) only [s163_70, s163_72, s163_73, s163_76, s163_77, s163_79, s163_80, s163_83, s163_85, s163_86, s163_89, s163_91, s163_92, s163_93, s163_96, s163_98, s163_100, s163_102, s163_104, s163_105, s163_108, s163_109, s163_112, s163_113, s163_114, s163_115, s163_116, s163_117, s163_118, s163_121, s163_122, s163_125, s163_126, s163_127, z_lt_t, z_lt_f, z_le_t, z_le_f, z_lt0, z_ge0, z_cl, z_in, z_add, z_eq_f, z_ne0, z_00, z_10, z_01, z_11, z_neg1, z_nI_NONE, z_div, z_rem, z_rem2, sw_pu_s, sw_pu_n, true_and, and_true, true_or, or_true, if_true, if_false, not_true_eq_false, not_false_eq_true, hend, z_mul, Nat.add_zero]
  · simp (disch := omega) only [s163_70, s163_72, s163_73, s163_76, s163_77, s163_79, s163_80, s163_83, s163_85, s163_86, s163_89, s163_91, s163_92, s163_93, s163_96, s163_98, s163_100, s163_102, s163_104, s163_105, s163_108, s163_109, s163_112, s163_113, s163_114, s163_115, s163_116, s163_117, s163_118, s163_121, s163_122, s163_125, s163_126, s163_127, z_lt_t, z_lt_f, z_le_t, z_le_f, z_lt0, z_ge0, z_cl, z_in, z_add, z_eq_f, z_ne0, z_00, z_10, z_01, z_11, z_neg1, z_nI_NONE, z_div, z_rem, z_rem2, sw_pu_s, sw_pu_n, true_and, and_true, true_or, or_true, if_true, if_false, not_true_eq_false, not_false_eq_true, hend, show ¬ (3 = 2) by decide, show ¬ (3 = 4) by decide, show ¬ (3 = 5) by decide, Nat.add_zero]
  · simp (disch := omega) only [s163_70, s163_72, s163_73, s163_76, s163_77, s163_79, s163_80, s163_83, s163_85, s163_86, s163_89, s163_91, s163_92, s163_93, s163_96, s163_98, s163_100, s163_102, s163_104, s163_105, s163_108, s163_109, s163_112, s163_113, s163_114, s163_115, s163_116, s163_117, s163_118, s163_121, s163_122, s163_125, s163_126, s163_127, z_lt_t, z_lt_f, z_le_t, z_le_f, z_lt0, z_ge0, z_cl, z_in, z_add, z_eq_f, z_ne0, z_00, z_10, z_01, z_11, z_neg1, z_nI_NONE, z_div, z_rem, z_rem2, sw_pu_s, sw_pu_n, true_and, and_true, true_or, or_true, if_true, if_false, not_true_eq_false, not_false_eq_true, hend, show ¬ (4 = 2) by decide, Nat.add_zero]
  · by_cases h : T 4 % 3 = 0
    · simp (disch := omega) only [s163_70, s163_72, s163_73, s163_76, s163_77, s163_79, s163_80, s163_83, s163_85, s163_86, s163_89, s163_91, s163_92, s163_93, s163_96, s163_98, s163_100, s163_102, s163_104, s163_105, s163_108, s163_109, s163_112, s163_113, s163_114, s163_115, s163_116, s163_117, s163_118, s163_121, s163_122, s163_125, s163_126, s163_127, z_lt_t, z_lt_f, z_le_t, z_le_f, z_lt0, z_ge0, z_cl, z_in, z_add, z_eq_f, z_ne0, z_00, z_10, z_01, z_11, z_neg1, z_nI_NONE, z_div, z_rem, z_rem2, sw_pu_s, sw_pu_n, true_and, and_true, true_or, or_true, if_true, if_false, not_true_eq_false, not_false_eq_true, g4, hend, show ¬ (5 = 2) by decide, show ¬ (5 = 4) by decide, h]
    · simp (disch := omega) only [s163_70, s163_72, s163_73, s163_76, s163_77, s163_79, s163_80, s163_83, s163_85, s163_86, s163_89, s163_91, s163_92, s163_93, s163_96, s163_98, s163_100, s163_102, s163_104, s163_105, s163_108, s163_109, s163_112, s163_113, s163_114, s163_115, s163_116, s163_117, s163_118, s163_121, s163_122, s163_125, s163_126, s163_127, z_lt_t, z_lt_f, z_le_t, z_le_f, z_lt0, z_ge0, z_cl, z_in, z_add, z_eq_f, z_ne0, z_00, z_10, z_01, z_11, z_neg1, z_nI_NONE, z_div, z_rem, z_rem2, sw_pu_s, sw_pu_n, true_and, and_true, true_or, or_true, if_true, if_false, not_true_eq_false, not_false_eq_true, g4, hend, show ¬ (5 = 2) by decide, show ¬ (5 = 4) by decide, h, Nat.add_zero]
theorem k164 (hM : IsM M B T) (hB : B ≤ 1107) (hW : WF T) {r : Nat} (hr : r < T 1) : sw_Cal (d + 3) 164 [.ref 0, .int (nI B), .int (nI r)] M Q = Q (some (.int (nI (gnT T r)))) M := by
  have h5 := hM.at2 37 r (by have := hW.2.1; omega)
  have w0 := hW.1
  have w1 := hW.2.1
  have y6 := (hW.2.2.2.2.2.1 r hr).2.2.2.2.2
  rw [c164]
  simp (disch := omega) only [s164_0, s164_1, s164_4, s164_5, s164_7, s164_8, s164_9, s164_10, s164_11, s164_12, s164_13, s164_14, s164_17, s164_18, s164_21, s164_22, s164_23, s164_24, s164_25, s164_28, z_lt_t, z_lt_f, z_le_t, z_le_f, z_lt0, z_ge0, z_cl, z_in, z_add, z_eq_f, z_ne0, z_00, z_10, z_01, z_11, z_neg1, z_nI_NONE, z_div, z_rem, z_rem2, sw_pu_s, sw_pu_n, true_and, and_true, true_or, or_true, if_true, if_false, not_true_eq_false, not_false_eq_true, h5, z_eq]
  unfold gnT
  by_cases h : T (37 + r) = 4
  · simp only [s164_0, s164_1, s164_4, s164_5, s164_7, s164_8, s164_9, s164_10, s164_11, s164_12, s164_13, s164_14, s164_17, s164_18, s164_21, s164_22, s164_23, s164_24, s164_25, s164_28, h, z_lt_t, z_lt_f, z_le_t, z_le_f, z_lt0, z_ge0, z_cl, z_in, z_add, z_eq_f, z_ne0, z_00, z_10, z_01, z_11, z_neg1, z_nI_NONE, z_div, z_rem, z_rem2, sw_pu_s, sw_pu_n, true_and, and_true, true_or, or_true, if_true, if_false, not_true_eq_false, not_false_eq_true]
  · have h63 := fun Q => k163 (d := d) (Q := Q) hM hB hW hr (b := T (37 + r)) (by omega)
    simp (disch := omega) only [s164_0, s164_1, s164_4, s164_5, s164_7, s164_8, s164_9, s164_10, s164_11, s164_12, s164_13, s164_14, s164_17, s164_18, s164_21, s164_22, s164_23, s164_24, s164_25, s164_28, h, z_lt_t, z_lt_f, z_le_t, z_le_f, z_lt0, z_ge0, z_cl, z_in, z_add, z_eq_f, z_ne0, z_00, z_10, z_01, z_11, z_neg1, z_nI_NONE, z_div, z_rem, z_rem2, sw_pu_s, sw_pu_n, true_and, and_true, true_or, or_true, if_true, if_false, not_true_eq_false, not_false_eq_true, h63]
end MOD
