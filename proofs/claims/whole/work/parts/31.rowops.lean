/-! rows: the small methods -/
theorem z_ibt {j n : Nat} (h : j < n) (hn : n < 2 ^ 31) : sw_ib (nI j) n = True := eq_true (sw_ib_n h hn)
theorem z_ibf {j n : Nat} (h : n ≤ j) (hj : j < 2 ^ 31) : sw_ib (nI j) n = False := by
  rw [z_ib hj (by omega)]
  exact eq_false (by omega)
theorem kr_10 {r : Nat} (h : r < 8) : sw_kd (14 + r) = 10 := by
  have : ∀ r, r < 8 → sw_kd (14 + r) = 10 := by decide +kernel
  exact this r h
theorem kr_ln {r : Nat} (h : r < 8) : sw_ln (14 + r) = 40 := by
  have : ∀ r, r < 8 → sw_ln (14 + r) = 40 := by decide +kernel
  exact this r h
/-- n places from i on, of m -/
abbrev hd (i n : Int32) (m : Nat) : Prop := 0 ≤ i.toInt ∧ 0 ≤ n.toInt ∧ i.toInt + n.toInt ≤ (m : Int)
theorem hd_of {i n : Int32} {m : Nat} (h : hd i n m) (hm : m < 2 ^ 30) : ∃ a c : Nat, i = nI a ∧ n = nI c ∧ a + c ≤ m := by
  obtain ⟨h1, h2, h3⟩ := h
  obtain ⟨a, ha, rfl⟩ := nI_of (x := i) (by rw [z_lt0I]; omega)
  obtain ⟨c, hc, rfl⟩ := nI_of (x := n) (by rw [z_lt0I]; omega)
  rw [nI_toInt ha, nI_toInt hc] at h3
  exact ⟨a, c, rfl, rfl, by omega⟩
section ROW
variable {d : Nat} {M : sw_Mem} {T : Tw} {I : Nat → Tw} {π : Ps} {ρ : Rw} {τ : Tp} {ft sv : Int32} {θ : Tc} {Q : Option Value → sw_Mem → Prop}
theorem k43 (x : Int32) : sw_Cal (d + 1) 43 [.int x] M Q = if sw_ib x 8 then Q (some (.int (nI 1))) M else Q (some (.int (nI 0))) M := by
  rw [c43]
  simp (disch := omega) only [s43_0, s43_1, s43_4, s43_5, s43_7, s43_10, s43_11, s43_14, s43_15, z_lt_t, z_lt_f, z_le_t, z_le_f, z_lt0, z_ge0, z_cl, z_in, z_add, z_eq_f, z_ne0, z_00, z_10, z_01, z_11, z_neg1, z_nI_NONE, z_div, z_rem, z_rem2, sw_pu_s, sw_pu_n, true_and, and_true, true_or, or_true, if_true, if_false, not_true_eq_false, not_false_eq_true, z_ltI, z_gtI, z_leI, z_geI, z_lt0I, z_ge0I, z_gt0I, z_le0I, z_ibI, Int32.toInt_zero]
  by_cases h : x.toInt < 0
  · rw [if_pos h, if_neg (by omega)]
  · rw [if_neg h]
    by_cases h2 : ((8 : Nat) : Int) ≤ x.toInt
    · rw [if_pos h2, if_neg (by omega)]
    · rw [if_neg h2, if_pos (by omega)]
theorem z_szv {n : Nat} (h : n < 2 ^ 30) : (szv n = -1) = (n = 0) := by
  cases n with
  | zero => simp [szv_0]
  | succ n =>
    rw [szv_s]
    apply propext
    constructor
    · intro q
      have := congrArg Int32.toInt q
      rw [nI_toInt (by omega), z_m1T] at this
      omega
    · intro q; omega
theorem z_szv0 {n : Nat} (h : n < 2 ^ 30) : (szv n < 0) = (n = 0) := by
  cases n with
  | zero => simp only [szv_0, eq_self]; exact eq_true (by decide)
  | succ n =>
    rw [szv_s, z_lt0 (by omega)]
    simp
theorem z_szvg {n : Nat} (h : n < 2 ^ 30) : (0 ≤ szv n) = ¬ (n = 0) := by
  rw [← z_szv0 h]
  exact propext (Int32.not_lt).symm
theorem k44 (h : CRw ρ M) (ho : ORw ρ) {r : Nat} (hr : r < 8) : sw_Cal (d + 1) 44 [.ref 12, .int (nI r)] M Q = if ρ.2.1 r = 0 then Q (some (.int (nI 1))) M else Q (some (.int (nI 0))) M := by
  obtain ⟨h1, h2, h3⟩ := h r hr
  obtain ⟨o1, o2⟩ := ho r hr
  rw [c44]
  simp (disch := omega) only [s44_0, s44_1, s44_4, s44_5, s44_6, s44_7, s44_10, s44_11, s44_14, s44_15, z_lt_t, z_lt_f, z_le_t, z_le_f, z_lt0, z_ge0, z_cl, z_in, z_add, z_eq_f, z_ne0, z_00, z_10, z_01, z_11, z_neg1, z_nI_NONE, z_div, z_rem, z_rem2, sw_pu_s, sw_pu_n, true_and, and_true, true_or, or_true, if_true, if_false, not_true_eq_false, not_false_eq_true, h2, z_szv]
  by_cases e : ρ.2.1 r = 0
  · simp only [e, z_lt_t, z_lt_f, z_le_t, z_le_f, z_lt0, z_ge0, z_cl, z_in, z_add, z_eq_f, z_ne0, z_00, z_10, z_01, z_11, z_neg1, z_nI_NONE, z_div, z_rem, z_rem2, sw_pu_s, sw_pu_n, true_and, and_true, true_or, or_true, if_true, if_false, not_true_eq_false, not_false_eq_true]
  · simp only [e, z_lt_t, z_lt_f, z_le_t, z_le_f, z_lt0, z_ge0, z_cl, z_in, z_add, z_eq_f, z_ne0, z_00, z_10, z_01, z_11, z_neg1, z_nI_NONE, z_div, z_rem, z_rem2, sw_pu_s, sw_pu_n, true_and, and_true, true_or, or_true, if_true, if_false, not_true_eq_false, not_false_eq_true]
theorem k45 (h : CRw ρ M) (ho : ORw ρ) {r m : Nat} (hr : r < 8) (hm : ρ.2.1 r = m + 1) (i n : Int32) : sw_Cal (d + 1) 45 [.ref 12, .int (nI r), .int i, .int n] M Q = if hd i n m then Q (some (.int (nI 1))) M else Q (some (.int (nI 0))) M := by
  obtain ⟨h1, h2, h3⟩ := h r hr
  obtain ⟨o1, o2⟩ := ho r hr
  rw [hm, szv_s] at h2
  rw [c45]
  simp (disch := omega) only [s45_0, s45_1, s45_4, s45_5, s45_8, s45_9, s45_10, s45_13, s45_14, s45_15, s45_16, s45_17, s45_20, s45_21, s45_24, s45_25, z_lt_t, z_lt_f, z_le_t, z_le_f, z_lt0, z_ge0, z_cl, z_in, z_add, z_eq_f, z_ne0, z_00, z_10, z_01, z_11, z_neg1, z_nI_NONE, z_div, z_rem, z_rem2, sw_pu_s, sw_pu_n, true_and, and_true, true_or, or_true, if_true, if_false, not_true_eq_false, not_false_eq_true, h2, z_ltI, z_gtI, z_leI, z_geI, z_lt0I, z_ge0I, z_gt0I, z_le0I, z_ibI, Int32.toInt_zero]
  unfold hd
  by_cases a : i.toInt < 0
  · rw [if_pos a, if_neg (by omega)]
  · rw [if_neg a]
    by_cases b : n.toInt < 0
    · rw [if_pos b, if_neg (by omega)]
    · rw [if_neg b]
      have hs : (nI m - n).toInt = (m : Int) - n.toInt := by
        rw [Int32.toInt_sub, nI_toInt (by omega)]
        have := Int32.toInt_lt n
        apply Int.bmod_eq_of_le <;> omega
      by_cases c : nI m - n < i
      · rw [if_pos c, if_neg]
        rw [Int32.lt_iff_toInt_lt, hs] at c
        omega
      · rw [if_neg c, if_pos]
        rw [Int32.lt_iff_toInt_lt, hs] at c
        omega
theorem k46 (h : CRw ρ M) {r : Nat} (hr : r < 8) : sw_Cal (d + 1) 46 [.ref 12, .int (nI r)] M Q = Q (some (.int (nI (ρ.1 r)))) M := by
  obtain ⟨h1, h2, h3⟩ := h r hr
  rw [c46]
  simp (disch := omega) only [s46_0, s46_1, s46_4, s46_5, s46_6, z_lt_t, z_lt_f, z_le_t, z_le_f, z_lt0, z_ge0, z_cl, z_in, z_add, z_eq_f, z_ne0, z_00, z_10, z_01, z_11, z_neg1, z_nI_NONE, z_div, z_rem, z_rem2, sw_pu_s, sw_pu_n, true_and, and_true, true_or, or_true, if_true, if_false, not_true_eq_false, not_false_eq_true, h1]
theorem k47 (h : CRw ρ M) {r i : Nat} (hr : r < 8) (hi : i < 40) : sw_Cal (d + 1) 47 [.ref 12, .int (nI r), .int (nI i)] M Q = Q (some (.int (ρ.2.2 r i))) M := by
  obtain ⟨h1, h2, h3⟩ := h r hr
  have := h3 i hi
  rw [c47]
  simp (disch := omega) only [s47_0, s47_1, s47_4, s47_5, s47_6, s47_7, s47_8, z_lt_t, z_lt_f, z_le_t, z_le_f, z_lt0, z_ge0, z_cl, z_in, z_add, z_eq_f, z_ne0, z_00, z_10, z_01, z_11, z_neg1, z_nI_NONE, z_div, z_rem, z_rem2, sw_pu_s, sw_pu_n, true_and, and_true, true_or, or_true, if_true, if_false, not_true_eq_false, not_false_eq_true, this, kr_10, kr_ln]
theorem k48 {r l n : Nat} (hr : r < 8) : sw_Cal (d + 2) 48 [.ref 12, .int (nI r), .int (nI l), .int (nI n)] M Q = Q none (sw_up (sw_up (sw_set M (14 + r) (fun j => if j < 40 then nI 0 else M (14 + r) j)) 22 r (nI l)) 23 r (nI n)) := by
  have h222 := fun Q => k222 (d := d) (M := M) (Q := Q) (kr_10 hr) (nI 0)
  rw [kr_ln hr] at h222
  rw [c48]
  simp (disch := omega) only [s48_0, s48_1, s48_4, s48_5, s48_6, s48_7, s48_10, s48_11, s48_14, s48_15, s48_16, s48_17, s48_18, s48_21, s48_22, s48_23, s48_24, z_lt_t, z_lt_f, z_le_t, z_le_f, z_lt0, z_ge0, z_cl, z_in, z_add, z_eq_f, z_ne0, z_00, z_10, z_01, z_11, z_neg1, z_nI_NONE, z_div, z_rem, z_rem2, sw_pu_s, sw_pu_n, true_and, and_true, true_or, or_true, if_true, if_false, not_true_eq_false, not_false_eq_true, h222]
def narr (l : Nat) (v : Int32) : Int32 := if l = 0 then v.toInt8.toInt32 else if l = 1 then v.toInt16.toInt32 else v
theorem k53 {l : Nat} (hl : l ≤ 2) (v : Int32) : sw_Cal (d + 1) 53 [.int (nI l), .int v] M Q = Q (some (.int (narr l v))) M := by
  rw [c53]
  unfold narr
  rcases (show l = 0 ∨ l = 1 ∨ l = 2 by omega) with rfl | rfl | rfl
  · simp only [s53_0, s53_1, s53_28, s53_29, s53_30, s53_31, s53_32, s53_33, s53_34, s53_35, show sw_pick [0, 1] [28, 31, 34] (nI 0).toInt = 28 from by decide, if_true]
  · simp only [s53_0, s53_1, s53_28, s53_29, s53_30, s53_31, s53_32, s53_33, s53_34, s53_35, show sw_pick [0, 1] [28, 31, 34] (nI 1).toInt = 31 from by decide, if_true, show ¬ (1 = 0) by decide, if_false]
  · simp only [s53_0, s53_1, s53_28, s53_29, s53_30, s53_31, s53_32, s53_33, s53_34, s53_35, show sw_pick [0, 1] [28, 31, 34] (nI 2).toInt = 34 from by decide, show ¬ (2 = 0) by decide, show ¬ (2 = 1) by decide, if_false]
theorem k137 {l : Nat} (hl : l ≤ 2) (v : Int32) : sw_Cal (d + 1) 137 [.int v, .int (nI l)] M Q = Q (some (.int (narr l v))) M := by
  rw [c137]
  unfold narr
  rcases (show l = 0 ∨ l = 1 ∨ l = 2 by omega) with rfl | rfl | rfl
  · simp (disch := omega) only [s137_0, s137_1, s137_4, s137_5, s137_6, s137_9, s137_10, s137_11, s137_14, s137_15, s137_16, s137_19, s137_20, z_lt_t, z_lt_f, z_le_t, z_le_f, z_lt0, z_ge0, z_cl, z_in, z_add, z_eq_f, z_ne0, z_00, z_10, z_01, z_11, z_neg1, z_nI_NONE, z_div, z_rem, z_rem2, sw_pu_s, sw_pu_n, true_and, and_true, true_or, or_true, if_true, if_false, not_true_eq_false, not_false_eq_true]
  · simp (disch := omega) only [s137_0, s137_1, s137_4, s137_5, s137_6, s137_9, s137_10, s137_11, s137_14, s137_15, s137_16, s137_19, s137_20, z_lt_t, z_lt_f, z_le_t, z_le_f, z_lt0, z_ge0, z_cl, z_in, z_add, z_eq_f, z_ne0, z_00, z_10, z_01, z_11, z_neg1, z_nI_NONE, z_div, z_rem, z_rem2, sw_pu_s, sw_pu_n, true_and, and_true, true_or, or_true, if_true, if_false, not_true_eq_false, not_false_eq_true, show ¬ (1 = 0) by decide]
  · simp (disch := omega) only [s137_0, s137_1, s137_4, s137_5, s137_6, s137_9, s137_10, s137_11, s137_14, s137_15, s137_16, s137_19, s137_20, z_lt_t, z_lt_f, z_le_t, z_le_f, z_lt0, z_ge0, z_cl, z_in, z_add, z_eq_f, z_ne0, z_00, z_10, z_01, z_11, z_neg1, z_nI_NONE, z_div, z_rem, z_rem2, sw_pu_s, sw_pu_n, true_and, and_true, true_or, or_true, if_true, if_false, not_true_eq_false, not_false_eq_true, show ¬ (2 = 0) by decide, show ¬ (2 = 1) by decide]
theorem k49 (h : CRw ρ M) (ho : ORw ρ) {r i : Nat} (hr : r < 8) (hi : i < 40) (v : Int32) : sw_Cal (d + 2) 49 [.ref 12, .int (nI r), .int (nI i), .int v] M Q = Q (some (.int (narr (ρ.1 r) v))) (sw_up M (14 + r) i (narr (ρ.1 r) v)) := by
  obtain ⟨h1, h2, h3⟩ := h r hr
  obtain ⟨o1, o2⟩ := ho r hr
  rw [c49]
  simp (disch := omega) only [s49_0, s49_1, s49_4, s49_5, s49_6, s49_7, s49_8, s49_11, s49_12, s49_13, s49_14, s49_17, s49_18, s49_19, s49_22, s49_23, s49_24, s49_25, s49_26, z_lt_t, z_lt_f, z_le_t, z_le_f, z_lt0, z_ge0, z_cl, z_in, z_add, z_eq_f, z_ne0, z_00, z_10, z_01, z_11, z_neg1, z_nI_NONE, z_div, z_rem, z_rem2, sw_pu_s, sw_pu_n, true_and, and_true, true_or, or_true, if_true, if_false, not_true_eq_false, not_false_eq_true, h1, k53, kr_10, kr_ln, z_up_s]
theorem k50 {a i b j n : Nat} (ha : a < 8) (hb : b < 8) (hi : i + n ≤ 40) (hj : j + n ≤ 40) : sw_Cal (d + 1) 50 [.ref 12, .int (nI a), .int (nI i), .int (nI b), .int (nI j), .int (nI n)] M Q = Q none (sw_set M (14 + b) (va_cpy (M (14 + a)) (M (14 + b)) i j n)) := by
  rw [c50]
  simp (disch := omega) only [s50_0, s50_1, s50_4, s50_5, s50_6, s50_7, s50_8, s50_11, s50_12, s50_13, s50_15, s50_17, s50_20, z_lt_t, z_lt_f, z_le_t, z_le_f, z_lt0, z_ge0, z_cl, z_in, z_add, z_eq_f, z_ne0, z_00, z_10, z_01, z_11, z_neg1, z_nI_NONE, z_div, z_rem, z_rem2, sw_pu_s, sw_pu_n, true_and, and_true, true_or, or_true, if_true, if_false, not_true_eq_false, not_false_eq_true, kr_10, kr_ln, hi, hj, and_self]
theorem k51 (h : CRw ρ M) {r : Nat} (hr : r < 8) : sw_Cal (d + 1) 51 [.ref 12, .int (nI r)] M Q = Q (some (.int (szv (ρ.2.1 r)))) (sw_up M 23 r (-1)) := by
  obtain ⟨h1, h2, h3⟩ := h r hr
  rw [c51]
  simp (disch := omega) only [s51_0, s51_1, s51_4, s51_5, s51_6, s51_7, s51_8, s51_11, s51_12, s51_13, s51_14, s51_15, z_lt_t, z_lt_f, z_le_t, z_le_f, z_lt0, z_ge0, z_cl, z_in, z_add, z_eq_f, z_ne0, z_00, z_10, z_01, z_11, z_neg1, z_nI_NONE, z_div, z_rem, z_rem2, sw_pu_s, sw_pu_n, true_and, and_true, true_or, or_true, if_true, if_false, not_true_eq_false, not_false_eq_true, h2]
def hmT (S : Nat → Nat) : Nat → Nat
  | 0 => 0
  | n + 1 => hmT S n + (if S n = 0 then 0 else 1)
theorem hmT_le (S : Nat → Nat) (n : Nat) : hmT S n ≤ n := by
  induction n with
  | zero => exact Nat.le_refl _
  | succ n ih =>
    show hmT S n + _ ≤ n + 1
    split <;> omega
theorem k52L (h : CRw ρ M) (ho : ORw ρ) : ∀ n r, r + n = 8 → sw_WP (d + 1) 52 4 [.ref 12, .int (nI (hmT ρ.2.1 r)), .int (nI r)] [] M Q = Q (some (.int (nI (hmT ρ.2.1 8)))) M := by
  intro n
  induction n with
  | zero =>
    intro r hr
    obtain rfl : r = 8 := by omega
    rw [s52_4]
    simp (disch := omega) only [s52_0, s52_1, s52_2, s52_3, s52_5, s52_7, s52_10, s52_11, s52_12, s52_13, s52_16, s52_19, s52_20, s52_23, s52_24, s52_25, s52_26, s52_29, s52_32, s52_33, z_lt_t, z_lt_f, z_le_t, z_le_f, z_lt0, z_ge0, z_cl, z_in, z_add, z_eq_f, z_ne0, z_00, z_10, z_01, z_11, z_neg1, z_nI_NONE, z_div, z_rem, z_rem2, sw_pu_s, sw_pu_n, true_and, and_true, true_or, or_true, if_true, if_false, not_true_eq_false, not_false_eq_true]
  | succ n ih =>
    intro r hr
    have h44 := fun Q => k44 (d := d) (Q := Q) h ho (show r < 8 by omega)
    have := ih (r + 1) (by omega)
    have e : hmT ρ.2.1 (r + 1) = hmT ρ.2.1 r + (if ρ.2.1 r = 0 then 0 else 1) := rfl
    rw [e] at this
    rw [s52_4]
    by_cases c : ρ.2.1 r = 0
    · rw [if_pos c] at this
      simp (disch := omega) only [s52_0, s52_1, s52_2, s52_3, s52_5, s52_7, s52_10, s52_11, s52_12, s52_13, s52_16, s52_19, s52_20, s52_23, s52_24, s52_25, s52_26, s52_29, s52_32, s52_33, z_lt_t, z_lt_f, z_le_t, z_le_f, z_lt0, z_ge0, z_cl, z_in, z_add, z_eq_f, z_ne0, z_00, z_10, z_01, z_11, z_neg1, z_nI_NONE, z_div, z_rem, z_rem2, sw_pu_s, sw_pu_n, true_and, and_true, true_or, or_true, if_true, if_false, not_true_eq_false, not_false_eq_true, h44, c, this]
    · rw [if_neg c] at this
      simp (disch := omega) only [s52_0, s52_1, s52_2, s52_3, s52_5, s52_7, s52_10, s52_11, s52_12, s52_13, s52_16, s52_19, s52_20, s52_23, s52_24, s52_25, s52_26, s52_29, s52_32, s52_33, z_lt_t, z_lt_f, z_le_t, z_le_f, z_lt0, z_ge0, z_cl, z_in, z_add, z_eq_f, z_ne0, z_00, z_10, z_01, z_11, z_neg1, z_nI_NONE, z_div, z_rem, z_rem2, sw_pu_s, sw_pu_n, true_and, and_true, true_or, or_true, if_true, if_false, not_true_eq_false, not_false_eq_true, h44, c, this]
theorem k52 (h : CRw ρ M) (ho : ORw ρ) : sw_Cal (d + 2) 52 [.ref 12] M Q = Q (some (.int (nI (hmT ρ.2.1 8)))) M := by
  have := k52L (d := d) (Q := Q) h ho 8 0 (by omega)
  rw [c52]
  simp (disch := omega) only [s52_0, s52_1, s52_2, s52_3, s52_5, s52_7, s52_10, s52_11, s52_12, s52_13, s52_16, s52_19, s52_20, s52_23, s52_24, s52_25, s52_26, s52_29, s52_32, s52_33, z_lt_t, z_lt_f, z_le_t, z_le_f, z_lt0, z_ge0, z_cl, z_in, z_add, z_eq_f, z_ne0, z_00, z_10, z_01, z_11, z_neg1, z_nI_NONE, z_div, z_rem, z_rem2, sw_pu_s, sw_pu_n, true_and, and_true, true_or, or_true, if_true, if_false, not_true_eq_false, not_false_eq_true]
  exact this
theorem k124 {w : Nat} : sw_Cal (d + 1) 124 [.ref 11, .int (nI w)] M Q = Q (some (.int (-1000010 - nI w))) (sw_up M 11 9 (nI w)) := by
  rw [c124]
  simp (disch := omega) only [s124_0, s124_1, s124_2, s124_5, s124_8, s124_9, s124_10, z_lt_t, z_lt_f, z_le_t, z_le_f, z_lt0, z_ge0, z_cl, z_in, z_add, z_eq_f, z_ne0, z_00, z_10, z_01, z_11, z_neg1, z_nI_NONE, z_div, z_rem, z_rem2, sw_pu_s, sw_pu_n, true_and, and_true, true_or, or_true, if_true, if_false, not_true_eq_false, not_false_eq_true]
theorem k125 (x : Int32) : sw_Cal (d + 1) 125 [.ref 11, .int x] M Q = Q (some (.int x)) (sw_up M 11 9 (nI 0)) := by
  rw [c125]
  simp (disch := omega) only [s125_0, s125_1, s125_2, s125_5, s125_6, z_lt_t, z_lt_f, z_le_t, z_le_f, z_lt0, z_ge0, z_cl, z_in, z_add, z_eq_f, z_ne0, z_00, z_10, z_01, z_11, z_neg1, z_nI_NONE, z_div, z_rem, z_rem2, sw_pu_s, sw_pu_n, true_and, and_true, true_or, or_true, if_true, if_false, not_true_eq_false, not_false_eq_true]
theorem k139 (h : MRw ρ M) (ho : ORw ρ) {r m : Nat} (hr : r < 8) (hm : ρ.2.1 r = m + 1) (i n : Int32) : sw_Cal (d + 1) 139 [.ref 0, .int (nI r), .int i, .int n] M Q = if hd i n m then Q (some (.int (nI 1))) M else Q (some (.int (nI 0))) M := by
  obtain ⟨h1, h2, h3⟩ := h r hr
  obtain ⟨o1, o2⟩ := ho r hr
  rw [hm, szv_s] at h2
  have hs : (i.toInt64 + n.toInt64).toInt = i.toInt + n.toInt := by
    rw [Int64.toInt_add, z_xT, z_xT]
    have := Int32.toInt_lt n
    have := Int32.toInt_lt i
    have := Int32.le_toInt n
    have := Int32.le_toInt i
    apply Int.bmod_eq_of_le <;> omega
  rw [c139]
  simp (disch := omega) only [s139_0, s139_1, s139_4, s139_5, s139_8, s139_9, s139_10, s139_11, s139_12, s139_13, s139_14, s139_17, s139_18, s139_19, s139_20, s139_21, s139_24, s139_25, s139_28, s139_29, z_lt_t, z_lt_f, z_le_t, z_le_f, z_lt0, z_ge0, z_cl, z_in, z_add, z_eq_f, z_ne0, z_00, z_10, z_01, z_11, z_neg1, z_nI_NONE, z_div, z_rem, z_rem2, sw_pu_s, sw_pu_n, true_and, and_true, true_or, or_true, if_true, if_false, not_true_eq_false, not_false_eq_true, h2, z_lcmp_gt, hs, z_xT, z_TI, z_lt0I]
  unfold hd
  by_cases a : i.toInt < 0
  · rw [if_pos a, if_neg (by omega)]
  · rw [if_neg a]
    by_cases b : n.toInt < 0
    · rw [if_pos b, if_neg (by omega)]
    · rw [if_neg b]
      by_cases c : (m : Int) < i.toInt + n.toInt
      · rw [if_pos c, if_neg (by omega)]
      · rw [if_neg c, if_pos (by omega)]
end ROW
