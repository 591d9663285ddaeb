/-! pairs that would rather: how many, and the first -/
def blc (T : Tw) (r n : Nat) : Nat := sm (fun b => if bl T r b then 1 else 0) n
theorem blc_s (T : Tw) (r n : Nat) : blc T r (n + 1) = blc T r n + (if bl T r n then 1 else 0) := rfl
theorem blc_le (T : Tw) (r n : Nat) : blc T r n ≤ 1 * n := sm_le (fun i _ => by split <;> omega)
def blt (T : Tw) (n : Nat) : Nat := sm (fun r => blc T r (T 0)) n
theorem blt_s (T : Tw) (n : Nat) : blt T (n + 1) = blt T n + blc T n (T 0) := rfl
theorem blt_le (T : Tw) (h : T 0 ≤ 4) (n : Nat) : blt T n ≤ 4 * n := sm_le (fun i _ => by have := blc_le T i (T 0); omega)
/-- the first of n beds from b on -/
def asc (T : Tw) (r : Nat) : Nat → Nat → Int32 → Int32
  | 0, _, e => e
  | n + 1, b, e => if bl T r b then nI (10 * r + b) else asc T r n (b + 1) e
def dn (T : Tw) (r : Nat) : Nat → Int32 → Int32
  | 0, e => e
  | n + 1, e => dn T r n (if bl T r n then nI (10 * r + n) else e)
theorem asc_s (T : Tw) (r n b : Nat) (e : Int32) : asc T r (n + 1) b e = if bl T r b then nI (10 * r + b) else asc T r n (b + 1) e := rfl
theorem asc_snoc (T : Tw) (r : Nat) : ∀ n b e, asc T r (n + 1) b e = asc T r n b (if bl T r (b + n) then nI (10 * r + (b + n)) else e) := by
  intro n
  induction n with
  | zero => intro b e; rfl
  | succ n ih =>
    intro b e
    rw [asc_s, ih, asc_s T r n b, show b + 1 + n = b + (n + 1) by omega]
theorem asc_dn (T : Tw) (r : Nat) : ∀ n e, asc T r n 0 e = dn T r n e := by
  intro n
  induction n with
  | zero => intro e; rfl
  | succ n ih => intro e; rw [asc_snoc, ih, Nat.zero_add]; rfl
def ascR (T : Tw) : Nat → Nat → Int32 → Int32
  | 0, _, e => e
  | m + 1, r, e => asc T r (T 0) 0 (ascR T m (r + 1) e)
def dnR (T : Tw) : Nat → Int32 → Int32
  | 0, e => e
  | m + 1, e => dnR T m (dn T m (T 0) e)
theorem ascR_s (T : Tw) (m r : Nat) (e : Int32) : ascR T (m + 1) r e = asc T r (T 0) 0 (ascR T m (r + 1) e) := rfl
theorem ascR_snoc (T : Tw) : ∀ m r e, ascR T (m + 1) r e = ascR T m r (asc T (r + m) (T 0) 0 e) := by
  intro m
  induction m with
  | zero => intro r e; rfl
  | succ m ih =>
    intro r e
    rw [ascR_s, ih, ascR_s T m r, show r + 1 + m = r + (m + 1) by omega]
theorem ascR_dnR (T : Tw) : ∀ m e, ascR T m 0 e = dnR T m e := by
  intro m
  induction m with
  | zero => intro e; rfl
  | succ m ih => intro e; rw [ascR_snoc, ih, Nat.zero_add, asc_dn]; rfl
section BLK
variable {T : Tw} {I : Nat → Tw} {π : Ps} {ρ : Rw} {τ : Tp} {ft sv : Int32} {θ : Tc} {M N : sw_Mem} {d c m : Nat} {as : List Value} {Q : Option Value → sw_Mem → Prop}
theorem k9i (hV : IsV M 34 T) (hW : WF T) {r A : Nat} (hr : r < T 1) (hA : A ≤ 100) : ∀ n b, b + n = T 0 → sw_WP (d + 4) 9 15 [.ref 82, .ref 34, .int (nI (A + blc T r b)), .int (nI r), .int (nI b)] [] M Q = sw_WP (d + 4) 9 48 [.ref 82, .ref 34, .int (nI (A + blc T r (T 0))), .int (nI r), .int (nI (T 0))] [] M Q := by
  have w0 := hW.1
  have hv := hV.1
  have h3 := hV.2.1.2.2.2.1
  intro n
  induction n with
  | zero =>
    intro b hb
    obtain rfl : b = T 0 := by omega
    refine (s9_15 ..).trans ?_
    simp (disch := omega) only [s9_17, s9_18, s9_21, s9_24, s9_25, s9_26, s9_27, s9_29, s9_32, s9_35, s9_36, s9_39, s9_40, s9_41, s9_42, s9_45, z_lt_t, z_lt_f, z_le_t, z_le_f, z_lt0, z_ge0, z_cl, z_in, z_add, z_eq_f, z_ne0, z_00, z_10, z_01, z_11, z_neg1, z_nI_NONE, z_div, z_rem, z_rem2, sw_pu_s, sw_pu_n, true_and, and_true, true_or, or_true, if_true, if_false, not_true_eq_false, not_false_eq_true, h3, hv]
  | succ n ih =>
    intro b hb
    have := ih (b + 1) (by omega)
    have h11 := fun Q => k11 (d := d) (Q := Q) hV hW hr (show b < T 0 by omega)
    rw [blc_s] at this
    refine (s9_15 ..).trans ?_
    by_cases e : bl T r b
    · rw [if_pos e] at this
      have h11 := fun Q => (h11 Q).trans (if_pos e)
      simp (disch := omega) only [s9_17, s9_18, s9_21, s9_24, s9_25, s9_26, s9_27, s9_29, s9_32, s9_35, s9_36, s9_39, s9_40, s9_41, s9_42, s9_45, z_lt_t, z_lt_f, z_le_t, z_le_f, z_lt0, z_ge0, z_cl, z_in, z_add, z_eq_f, z_ne0, z_00, z_10, z_01, z_11, z_neg1, z_nI_NONE, z_div, z_rem, z_rem2, sw_pu_s, sw_pu_n, true_and, and_true, true_or, or_true, if_true, if_false, not_true_eq_false, not_false_eq_true, h3, hv, h11, Nat.add_assoc]
      exact this
    · rw [if_neg e] at this
      have h11 := fun Q => (h11 Q).trans (if_neg e)
      simp (disch := omega) only [s9_17, s9_18, s9_21, s9_24, s9_25, s9_26, s9_27, s9_29, s9_32, s9_35, s9_36, s9_39, s9_40, s9_41, s9_42, s9_45, z_lt_t, z_lt_f, z_le_t, z_le_f, z_lt0, z_ge0, z_cl, z_in, z_add, z_eq_f, z_ne0, z_00, z_10, z_01, z_11, z_neg1, z_nI_NONE, z_div, z_rem, z_rem2, sw_pu_s, sw_pu_n, true_and, and_true, true_or, or_true, if_true, if_false, not_true_eq_false, not_false_eq_true, h3, hv, h11, Nat.add_assoc]
      exact this
theorem k9L (hV : IsV M 34 T) (hW : WF T) : ∀ m r (x : Value), r + m = T 1 → sw_WP (d + 4) 9 4 [.ref 82, .ref 34, .int (nI (blt T r)), .int (nI r), x] [] M Q = Q (some (.int (nI (blt T (T 1))))) M := by
  have w0 := hW.1
  have w1 := hW.2.1
  have hv := hV.1
  have h4 := hV.2.1.2.2.2.2
  intro m
  induction m with
  | zero =>
    intro r x hr
    obtain rfl : r = T 1 := by omega
    refine (s9_4 ..).trans ?_
    simp (disch := omega) only [s9_5, s9_6, s9_9, s9_12, s9_13, s9_54, s9_55, z_lt_t, z_lt_f, z_le_t, z_le_f, z_lt0, z_ge0, z_cl, z_in, z_add, z_eq_f, z_ne0, z_00, z_10, z_01, z_11, z_neg1, z_nI_NONE, z_div, z_rem, z_rem2, sw_pu_s, sw_pu_n, true_and, and_true, true_or, or_true, if_true, if_false, not_true_eq_false, not_false_eq_true, h4, hv]
  | succ m ih =>
    intro r x hr
    have := ih (r + 1) (.int (nI (T 0))) (by omega)
    have hl := blt_le T w0 r
    have hi := k9i (d := d) (Q := Q) hV hW (show r < T 1 by omega) (show blt T r ≤ 100 by omega) (T 0) 0 (by omega)
    rw [show blc T r 0 = 0 from rfl, Nat.add_zero (blt T r)] at hi
    rw [blt_s] at this
    refine (s9_4 ..).trans ?_
    simp (disch := omega) only [s9_5, s9_6, s9_9, s9_12, s9_13, z_lt_t, z_lt_f, z_le_t, z_le_f, z_lt0, z_ge0, z_cl, z_in, z_add, z_eq_f, z_ne0, z_00, z_10, z_01, z_11, z_neg1, z_nI_NONE, z_div, z_rem, z_rem2, sw_pu_s, sw_pu_n, true_and, and_true, true_or, or_true, if_true, if_false, not_true_eq_false, not_false_eq_true, h4, hv]
    rw [hi]
    simp (disch := omega) only [s9_48, s9_51, z_lt_t, z_lt_f, z_le_t, z_le_f, z_lt0, z_ge0, z_cl, z_in, z_add, z_eq_f, z_ne0, z_00, z_10, z_01, z_11, z_neg1, z_nI_NONE, z_div, z_rem, z_rem2, sw_pu_s, sw_pu_n, true_and, and_true, true_or, or_true, if_true, if_false, not_true_eq_false, not_false_eq_true]
    exact this
theorem k9 (hV : IsV M 34 T) (hW : WF T) : sw_Cal (d + 5) 9 [.ref 82, .ref 34] M Q = Q (some (.int (nI (blt T (T 1))))) M := by
  have := k9L (d := d) (Q := Q) hV hW (T 1) 0 sw_U (by omega)
  rw [c9]
  simp (disch := omega) only [s9_0, s9_1, s9_2, s9_3]
  exact this
theorem k10i (hV : IsV M 34 T) (hW : WF T) {r : Nat} (hr : r < T 1) {els : Int32} (he : sw_WP (d + 4) 10 42 [.ref 82, .ref 34, .int (nI r), .int (nI (T 0))] [] M Q = Q (some (.int els)) M) : ∀ n b, b + n = T 0 → sw_WP (d + 4) 10 12 [.ref 82, .ref 34, .int (nI r), .int (nI b)] [] M Q = Q (some (.int (asc T r n b els))) M := by
  have w0 := hW.1
  have w1 := hW.2.1
  have hv := hV.1
  have h3 := hV.2.1.2.2.2.1
  intro n
  induction n with
  | zero =>
    intro b hb
    obtain rfl : b = T 0 := by omega
    refine (s10_12 ..).trans ?_
    simp (disch := omega) only [s10_13, s10_14, s10_17, s10_20, s10_21, s10_22, s10_23, s10_26, s10_29, s10_31, s10_32, s10_33, s10_34, s10_35, s10_36, s10_39, z_lt_t, z_lt_f, z_le_t, z_le_f, z_lt0, z_ge0, z_cl, z_in, z_add, z_eq_f, z_ne0, z_00, z_10, z_01, z_11, z_neg1, z_nI_NONE, z_div, z_rem, z_rem2, sw_pu_s, sw_pu_n, true_and, and_true, true_or, or_true, if_true, if_false, not_true_eq_false, not_false_eq_true, h3, hv, he]
    rfl
  | succ n ih =>
    intro b hb
    have := ih (b + 1) (by omega)
    have h11 := fun Q => k11 (d := d) (Q := Q) hV hW hr (show b < T 0 by omega)
    rw [asc_s]
    refine (s10_12 ..).trans ?_
    by_cases e : bl T r b
    · rw [if_pos e]
      have h11 := fun Q => (h11 Q).trans (if_pos e)
      simp (disch := omega) only [s10_13, s10_14, s10_17, s10_20, s10_21, s10_22, s10_23, s10_26, s10_29, s10_31, s10_32, s10_33, s10_34, s10_35, s10_36, s10_39, z_lt_t, z_lt_f, z_le_t, z_le_f, z_lt0, z_ge0, z_cl, z_in, z_add, z_eq_f, z_ne0, z_00, z_10, z_01, z_11, z_neg1, z_nI_NONE, z_div, z_rem, z_rem2, sw_pu_s, sw_pu_n, true_and, and_true, true_or, or_true, if_true, if_false, not_true_eq_false, not_false_eq_true, h3, hv, h11, z_mul]
    · rw [if_neg e]
      have h11 := fun Q => (h11 Q).trans (if_neg e)
      simp (disch := omega) only [s10_13, s10_14, s10_17, s10_20, s10_21, s10_22, s10_23, s10_26, s10_29, s10_31, s10_32, s10_33, s10_34, s10_35, s10_36, s10_39, z_lt_t, z_lt_f, z_le_t, z_le_f, z_lt0, z_ge0, z_cl, z_in, z_add, z_eq_f, z_ne0, z_00, z_10, z_01, z_11, z_neg1, z_nI_NONE, z_div, z_rem, z_rem2, sw_pu_s, sw_pu_n, true_and, and_true, true_or, or_true, if_true, if_false, not_true_eq_false, not_false_eq_true, h3, hv, h11, this]
theorem k10L (hV : IsV M 34 T) (hW : WF T) : ∀ m r (x : Value), r + m = T 1 → sw_WP (d + 4) 10 2 [.ref 82, .ref 34, .int (nI r), x] [] M Q = Q (some (.int (ascR T m r (-1000000)))) M := by
  have w0 := hW.1
  have w1 := hW.2.1
  have hv := hV.1
  have h4 := hV.2.1.2.2.2.2
  intro m
  induction m with
  | zero =>
    intro r x hr
    obtain rfl : r = T 1 := by omega
    refine (s10_2 ..).trans ?_
    simp (disch := omega) only [s10_3, s10_4, s10_7, s10_10, s10_11, s10_48, s10_50, z_lt_t, z_lt_f, z_le_t, z_le_f, z_lt0, z_ge0, z_cl, z_in, z_add, z_eq_f, z_ne0, z_00, z_10, z_01, z_11, z_neg1, z_nI_NONE, z_div, z_rem, z_rem2, sw_pu_s, sw_pu_n, true_and, and_true, true_or, or_true, if_true, if_false, not_true_eq_false, not_false_eq_true, h4, hv]
    rfl
  | succ m ih =>
    intro r x hr
    have := ih (r + 1) (.int (nI (T 0))) (by omega)
    have he : sw_WP (d + 4) 10 42 [.ref 82, .ref 34, .int (nI r), .int (nI (T 0))] [] M Q = Q (some (.int (ascR T m (r + 1) (-1000000)))) M := by
      simp (disch := omega) only [s10_42, s10_45, z_lt_t, z_lt_f, z_le_t, z_le_f, z_lt0, z_ge0, z_cl, z_in, z_add, z_eq_f, z_ne0, z_00, z_10, z_01, z_11, z_neg1, z_nI_NONE, z_div, z_rem, z_rem2, sw_pu_s, sw_pu_n, true_and, and_true, true_or, or_true, if_true, if_false, not_true_eq_false, not_false_eq_true]
      exact this
    have hi := k10i hV hW (show r < T 1 by omega) he (T 0) 0 (by omega)
    rw [ascR_s]
    refine (s10_2 ..).trans ?_
    simp (disch := omega) only [s10_3, s10_4, s10_7, s10_10, s10_11, z_lt_t, z_lt_f, z_le_t, z_le_f, z_lt0, z_ge0, z_cl, z_in, z_add, z_eq_f, z_ne0, z_00, z_10, z_01, z_11, z_neg1, z_nI_NONE, z_div, z_rem, z_rem2, sw_pu_s, sw_pu_n, true_and, and_true, true_or, or_true, if_true, if_false, not_true_eq_false, not_false_eq_true, h4, hv]
    exact hi
theorem k10 (hV : IsV M 34 T) (hW : WF T) : sw_Cal (d + 5) 10 [.ref 82, .ref 34] M Q = Q (some (.int (dnR T (T 1) (-1000000)))) M := by
  have := k10L (d := d) (Q := Q) hV hW (T 1) 0 sw_U (by omega)
  rw [ascR_dnR] at this
  rw [c10]
  simp (disch := omega) only [s10_0, s10_1]
  exact this
theorem k181i (hM : IsM N 0 T) (hW : WF T) {r : Nat} (hr : r < T 1) (w : Int32) : ∀ n, n ≤ T 0 → ∀ A e, A + n ≤ 100 → sw_WP (d + 4) 181 53 [.ref 0, .int w, .int (nI A), .int e, .int (nI r), .int (nI n + (-1))] [] N Q = sw_WP (d + 4) 181 107 [.ref 0, .int w, .int (nI (A + blc T r n)), .int (dn T r n e), .int (nI r), .int (nI 0 + (-1))] [] N Q := by
  have w0 := hW.1
  have w1 := hW.2.1
  intro n
  induction n with
  | zero =>
    intro hn A e hA
    refine (s181_53 ..).trans ?_
    simp (disch := omega) only [s181_55, s181_58, s181_59, s181_60, s181_62, s181_64, s181_67, s181_70, s181_71, s181_74, s181_75, s181_76, s181_77, s181_78, s181_80, s181_82, s181_85, s181_88, s181_90, s181_92, s181_93, s181_95, s181_96, s181_99, s181_100, s181_101, s181_104, z_lt_t, z_lt_f, z_le_t, z_le_f, z_lt0, z_ge0, z_cl, z_in, z_add, z_eq_f, z_ne0, z_00, z_10, z_01, z_11, z_neg1, z_nI_NONE, z_div, z_rem, z_rem2, sw_pu_s, sw_pu_n, true_and, and_true, true_or, or_true, if_true, if_false, not_true_eq_false, not_false_eq_true, z_0m]
    rfl
  | succ n ih =>
    intro hn A e hA
    have h180 := fun Q => k180 (d := d) (Q := Q) hM hW hr (show n < T 0 by omega)
    have hl := blc_le T r n
    refine (s181_53 ..).trans ?_
    show _ = sw_WP (d + 4) 181 107 [.ref 0, .int w, .int (nI (A + (blc T r n + (if bl T r n then 1 else 0)))), .int (dn T r n (if bl T r n then nI (10 * r + n) else e)), .int (nI r), .int (nI 0 + (-1))] [] N Q
    by_cases b : bl T r n
    · have h180 := fun Q => (h180 Q).trans (if_pos b)
      rw [if_pos b, if_pos b]
      have := ih (by omega) (A + 1) (nI (10 * r + n)) (by omega)
      simp (disch := omega) only [s181_55, s181_58, s181_59, s181_60, s181_62, s181_64, s181_67, s181_70, s181_71, s181_74, s181_75, s181_76, s181_77, s181_78, s181_80, s181_82, s181_85, s181_88, s181_90, s181_92, s181_93, s181_95, s181_96, s181_99, s181_100, s181_101, s181_104, z_lt_t, z_lt_f, z_le_t, z_le_f, z_lt0, z_ge0, z_cl, z_in, z_add, z_eq_f, z_ne0, z_00, z_10, z_01, z_11, z_neg1, z_nI_NONE, z_div, z_rem, z_rem2, sw_pu_s, sw_pu_n, true_and, and_true, true_or, or_true, if_true, if_false, not_true_eq_false, not_false_eq_true, z_pm, h180, z_mul, z_sm]
      rw [show A + (blc T r n + 1) = A + 1 + blc T r n by omega]
      exact this
    · have h180 := fun Q => (h180 Q).trans (if_neg b)
      rw [if_neg b, if_neg b]
      have := ih (by omega) A e (by omega)
      simp (disch := omega) only [s181_55, s181_58, s181_59, s181_60, s181_62, s181_64, s181_67, s181_70, s181_71, s181_74, s181_75, s181_76, s181_77, s181_78, s181_80, s181_82, s181_85, s181_88, s181_90, s181_92, s181_93, s181_95, s181_96, s181_99, s181_100, s181_101, s181_104, z_lt_t, z_lt_f, z_le_t, z_le_f, z_lt0, z_ge0, z_cl, z_in, z_add, z_eq_f, z_ne0, z_00, z_10, z_01, z_11, z_neg1, z_nI_NONE, z_div, z_rem, z_rem2, sw_pu_s, sw_pu_n, true_and, and_true, true_or, or_true, if_true, if_false, not_true_eq_false, not_false_eq_true, z_pm, h180, z_mul, z_sm]
      exact this
theorem k181L (hM : IsM N 0 T) (hW : WF T) (w : Int32) : ∀ n, n ≤ T 1 → ∀ A e (x : Value), A + 4 * n ≤ 100 → sw_WP (d + 4) 181 38 [.ref 0, .int w, .int (nI A), .int e, .int (nI n + (-1)), x] [] N Q = (if w = 0 then Q (some (.int (nI (A + blt T n)))) N else Q (some (.int (dnR T n e))) N) := by
  have w0 := hW.1
  have w1 := hW.2.1
  have m0 := hM.z 0 (by omega)
  intro n
  induction n with
  | zero =>
    intro hn A e x hA
    refine (s181_38 ..).trans ?_
    by_cases h : w = 0
    · simp (disch := omega) only [s181_40, s181_43, s181_44, s181_47, s181_48, s181_49, s181_50, s181_51, s181_113, s181_114, s181_117, s181_118, s181_121, s181_122, z_lt_t, z_lt_f, z_le_t, z_le_f, z_lt0, z_ge0, z_cl, z_in, z_add, z_eq_f, z_ne0, z_00, z_10, z_01, z_11, z_neg1, z_nI_NONE, z_div, z_rem, z_rem2, sw_pu_s, sw_pu_n, true_and, and_true, true_or, or_true, if_true, if_false, not_true_eq_false, not_false_eq_true, z_0m, h]
      rfl
    · simp (disch := omega) only [s181_40, s181_43, s181_44, s181_47, s181_48, s181_49, s181_50, s181_51, s181_113, s181_114, s181_117, s181_118, s181_121, s181_122, z_lt_t, z_lt_f, z_le_t, z_le_f, z_lt0, z_ge0, z_cl, z_in, z_add, z_eq_f, z_ne0, z_00, z_10, z_01, z_11, z_neg1, z_nI_NONE, z_div, z_rem, z_rem2, sw_pu_s, sw_pu_n, true_and, and_true, true_or, or_true, if_true, if_false, not_true_eq_false, not_false_eq_true, z_0m, h]
      rfl
  | succ n ih =>
    intro hn A e x hA
    have hi := k181i (d := d) (Q := Q) hM hW (show n < T 1 by omega) w (T 0) (Nat.le_refl _) A e (by omega)
    have hl := blc_le T n (T 0)
    have := ih (by omega) (A + blc T n (T 0)) (dn T n (T 0) e) (.int (nI 0 + (-1))) (by omega)
    refine (s181_38 ..).trans ?_
    simp (disch := omega) only [s181_40, s181_43, s181_44, s181_47, s181_48, s181_49, s181_50, s181_51, z_lt_t, z_lt_f, z_le_t, z_le_f, z_lt0, z_ge0, z_cl, z_in, z_add, z_eq_f, z_ne0, z_00, z_10, z_01, z_11, z_neg1, z_nI_NONE, z_div, z_rem, z_rem2, sw_pu_s, sw_pu_n, true_and, and_true, true_or, or_true, if_true, if_false, not_true_eq_false, not_false_eq_true, z_pm, m0, z_sm]
    rw [hi]
    simp (disch := omega) only [s181_107, s181_110]
    rw [this, blt_s, show A + (blt T n + blc T n (T 0)) = A + blc T n (T 0) + blt T n by omega]
    rfl
theorem o_blocks (w : Int32) : Opp 108 181 [.int w] := by
  intro d T I π ρ τ ft sv θ M N hO hC hM
  have hV := hC.1
  have hT := hM.1.1
  have hi := hM.1.2
  have hW := hO.1.1
  have w0 := hW.1
  have w1 := hW.2.1
  have m1 := hT.z 1 (by omega)
  have h62 := fun d Q => k62 (d := d) (Q := Q) hV hW
  by_cases h0 : 0 < T 0
  case neg =>
    rw [is1_n h0] at hi
    refine Res_id hO hC hM (-1000002) (fun Q => ?_) (fun Q => ?_)
    · rw [c108]
      simp (disch := omega) only [s108_0, s108_1, s108_4, s108_7, s108_10, s108_12, z_lt_t, z_lt_f, z_le_t, z_le_f, z_lt0, z_ge0, z_cl, z_in, z_add, z_eq_f, z_ne0, z_00, z_10, z_01, z_11, z_neg1, z_nI_NONE, z_div, z_rem, z_rem2, sw_pu_s, sw_pu_n, true_and, and_true, true_or, or_true, if_true, if_false, not_true_eq_false, not_false_eq_true, h62, h0]
    · rw [c181]
      simp (disch := omega) only [s181_0, s181_1, s181_4, s181_7, s181_9, z_lt_t, z_lt_f, z_le_t, z_le_f, z_lt0, z_ge0, z_cl, z_in, z_add, z_eq_f, z_ne0, z_00, z_10, z_01, z_11, z_neg1, z_nI_NONE, z_div, z_rem, z_rem2, sw_pu_s, sw_pu_n, true_and, and_true, true_or, or_true, if_true, if_false, not_true_eq_false, not_false_eq_true, hi]
  rw [is1_p h0] at hi
  have h9 := fun d Q => k9 (d := d) (Q := Q) hV hW
  have h10 := fun d Q => k10 (d := d) (Q := Q) hV hW
  have hL := fun Q => k181L (d := d + 15) (Q := Q) hT hW w (T 1) (Nat.le_refl _) 0 (-1000000) sw_U (by omega)
  rcases (show w.toInt = 0 ∨ w.toInt = 1 ∨ (w.toInt < 0 ∨ 1 < w.toInt) by omega) with h | h | h
  · have e : w = 0 := Int32.toInt_inj.mp (by rw [h]; rfl)
    refine Res_id hO hC hM (nI (blt T (T 1))) (fun Q => ?_) (fun Q => ?_)
    · rw [c108]
      simp (disch := omega) only [s108_0, s108_1, s108_4, s108_7, s108_10, s108_12, s108_13, s108_14, s108_40, s108_41, s108_44, s108_45, s108_48, s108_51, s108_52, s108_53, s108_56, s108_57, s108_60, s108_63, s108_64, s108_66, z_lt_t, z_lt_f, z_le_t, z_le_f, z_lt0, z_ge0, z_cl, z_in, z_add, z_eq_f, z_ne0, z_00, z_10, z_01, z_11, z_neg1, z_nI_NONE, z_div, z_rem, z_rem2, sw_pu_s, sw_pu_n, true_and, and_true, true_or, or_true, if_true, if_false, not_true_eq_false, not_false_eq_true, h62, h0, h9, z_pk_s, z_pk_n, ↓if_pos, ↓if_neg]
    · have hL := hL Q
      rw [if_pos e, Nat.zero_add] at hL
      rw [c181]
      simp (disch := omega) only [s181_0, s181_1, s181_4, s181_7, s181_9, s181_10, s181_11, s181_12, s181_13, s181_14, s181_17, s181_20, s181_22, s181_23, s181_24, s181_25, s181_27, s181_28, s181_29, s181_32, s181_33, s181_34, s181_35, s181_36, z_lt_t, z_lt_f, z_le_t, z_le_f, z_lt0, z_ge0, z_cl, z_in, z_add, z_eq_f, z_ne0, z_00, z_10, z_01, z_11, z_neg1, z_nI_NONE, z_div, z_rem, z_rem2, sw_pu_s, sw_pu_n, true_and, and_true, true_or, or_true, if_true, if_false, not_true_eq_false, not_false_eq_true, hi, k129, z_lT, z_xT, m1, z_sm, ↓if_pos, ↓if_neg]
      exact hL
  · have e : ¬ w = 0 := fun q => by rw [q] at h; exact absurd h (by decide)
    refine Res_id hO hC hM (dnR T (T 1) (-1000000)) (fun Q => ?_) (fun Q => ?_)
    · rw [c108]
      simp (disch := omega) only [s108_0, s108_1, s108_4, s108_7, s108_10, s108_12, s108_13, s108_14, s108_40, s108_41, s108_44, s108_45, s108_48, s108_51, s108_52, s108_53, s108_56, s108_57, s108_60, s108_63, s108_64, s108_66, z_lt_t, z_lt_f, z_le_t, z_le_f, z_lt0, z_ge0, z_cl, z_in, z_add, z_eq_f, z_ne0, z_00, z_10, z_01, z_11, z_neg1, z_nI_NONE, z_div, z_rem, z_rem2, sw_pu_s, sw_pu_n, true_and, and_true, true_or, or_true, if_true, if_false, not_true_eq_false, not_false_eq_true, h62, h0, h10, z_pk_s, z_pk_n, ↓if_pos, ↓if_neg]
    · have hL := hL Q
      rw [if_neg e] at hL
      rw [c181]
      simp (disch := omega) only [s181_0, s181_1, s181_4, s181_7, s181_9, s181_10, s181_11, s181_12, s181_13, s181_14, s181_17, s181_20, s181_22, s181_23, s181_24, s181_25, s181_27, s181_28, s181_29, s181_32, s181_33, s181_34, s181_35, s181_36, z_lt_t, z_lt_f, z_le_t, z_le_f, z_lt0, z_ge0, z_cl, z_in, z_add, z_eq_f, z_ne0, z_00, z_10, z_01, z_11, z_neg1, z_nI_NONE, z_div, z_rem, z_rem2, sw_pu_s, sw_pu_n, true_and, and_true, true_or, or_true, if_true, if_false, not_true_eq_false, not_false_eq_true, hi, k129, z_lT, z_xT, m1, z_sm, ↓if_pos, ↓if_neg]
      exact hL
  · refine Res_id hO hC hM (-1000001) (fun Q => ?_) (fun Q => ?_)
    · rw [c108]
      simp (disch := omega) only [s108_0, s108_1, s108_4, s108_7, s108_10, s108_12, s108_13, s108_14, s108_40, s108_41, s108_44, s108_45, s108_48, s108_51, s108_52, s108_53, s108_56, s108_57, s108_60, s108_63, s108_64, s108_66, z_lt_t, z_lt_f, z_le_t, z_le_f, z_lt0, z_ge0, z_cl, z_in, z_add, z_eq_f, z_ne0, z_00, z_10, z_01, z_11, z_neg1, z_nI_NONE, z_div, z_rem, z_rem2, sw_pu_s, sw_pu_n, true_and, and_true, true_or, or_true, if_true, if_false, not_true_eq_false, not_false_eq_true, h62, h0, z_pk_s, z_pk_n, ↓if_pos, ↓if_neg]
    · rw [c181]
      simp (disch := omega) only [s181_0, s181_1, s181_4, s181_7, s181_9, s181_10, s181_11, s181_12, s181_13, s181_14, s181_17, s181_20, s181_22, z_lt_t, z_lt_f, z_le_t, z_le_f, z_lt0, z_ge0, z_cl, z_in, z_add, z_eq_f, z_ne0, z_00, z_10, z_01, z_11, z_neg1, z_nI_NONE, z_div, z_rem, z_rem2, sw_pu_s, sw_pu_n, true_and, and_true, true_or, or_true, if_true, if_false, not_true_eq_false, not_false_eq_true, hi, k129, z_lT, z_xT, ↓if_pos, ↓if_neg]
end BLK
