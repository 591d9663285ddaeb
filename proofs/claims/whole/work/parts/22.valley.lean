/-! Valley: what it does to its cells -/
theorem fill_step (M : sw_Mem) (a i : Nat) (x : Int32) : sw_up (sw_set M a (fun j => if j < i then x else M a j)) a i x = sw_set M a (fun j => if j < i + 1 then x else M a j) := by
  funext k j
  rw [z_up]
  by_cases h : k = a
  · subst h
    rw [z_set_s, z_set_s]
    by_cases hj : j = i
    · subst hj
      rw [if_pos ⟨rfl, rfl⟩, if_pos (by omega)]
    · rw [if_neg (fun q => hj q.2)]
      by_cases h2 : j < i
      · rw [if_pos h2, if_pos (by omega)]
      · rw [if_neg h2, if_neg (by omega)]
  · rw [if_neg (fun q => h q.1), z_set_n _ _ h, z_set_n _ _ h]
theorem sw_ln_lt (a : Nat) : sw_ln a < 2000 := by
  rcases Nat.lt_or_ge a 113 with q | q
  · have : ∀ a, a < 113 → sw_ln a < 2000 := by decide +kernel
    exact this a q
  · have e : sw_ln a = 0 := by
      unfold sw_ln
      rw [List.getD_eq_getElem?_getD, List.getElem?_eq_none (by exact q)]
      rfl
    omega
section VAM
variable {d v : Nat} {M : sw_Mem} {T : Tw} {Q : Option Value → sw_Mem → Prop}
theorem k222L {a : Nat} (ha : sw_kd a = 10) (x : Int32) : ∀ n i, i + n = sw_ln a → sw_WP d 222 5 [.ref a, .int x, .int (nI i), .int (nI (sw_ln a))] [] (sw_set M a (fun j => if j < i then x else M a j)) Q = Q none (sw_set M a (fun j => if j < sw_ln a then x else M a j)) := by
  have hl := sw_ln_lt a
  intro n
  induction n with
  | zero =>
    intro i h
    obtain rfl : i = sw_ln a := by omega
    rw [s222_5]
    simp (disch := omega) only [s222_0, s222_1, s222_2, s222_3, s222_4, s222_6, s222_7, s222_10, s222_11, s222_12, s222_13, s222_14, s222_17, s222_20, z_lt_t, z_lt_f, z_le_t, z_le_f, z_lt0, z_ge0, z_cl, z_in, z_add, z_eq_f, z_ne0, z_00, z_10, z_01, z_11, z_neg1, z_nI_NONE, z_div, z_rem, z_rem2, sw_pu_s, sw_pu_n, true_and, and_true, true_or, or_true, if_true, if_false, not_true_eq_false, not_false_eq_true]
  | succ n ih =>
    intro i h
    rw [s222_5]
    simp (disch := omega) only [s222_0, s222_1, s222_2, s222_3, s222_4, s222_6, s222_7, s222_10, s222_11, s222_12, s222_13, s222_14, s222_17, s222_20, z_lt_t, z_lt_f, z_le_t, z_le_f, z_lt0, z_ge0, z_cl, z_in, z_add, z_eq_f, z_ne0, z_00, z_10, z_01, z_11, z_neg1, z_nI_NONE, z_div, z_rem, z_rem2, sw_pu_s, sw_pu_n, true_and, and_true, true_or, or_true, if_true, if_false, not_true_eq_false, not_false_eq_true, ha, fill_step, ih]
theorem k222 {a : Nat} (ha : sw_kd a = 10) (x : Int32) : sw_Cal (d + 1) 222 [.ref a, .int x] M Q = Q none (sw_set M a (fun j => if j < sw_ln a then x else M a j)) := by
  have h0 : sw_set M a (fun j => if j < 0 then x else M a j) = M := by
    funext k j
    by_cases h : k = a
    · subst h
      rw [z_set_s]
      simp
    · rw [z_set_n _ _ h]
  have := k222L (d := d) (M := M) (Q := Q) ha x (sw_ln a) 0 (by omega)
  rw [h0] at this
  rw [c222]
  simp (disch := omega) only [s222_0, s222_1, s222_2, s222_3, s222_4, s222_6, s222_7, s222_10, s222_11, s222_12, s222_13, s222_14, s222_17, s222_20, z_lt_t, z_lt_f, z_le_t, z_le_f, z_lt0, z_ge0, z_cl, z_in, z_add, z_eq_f, z_ne0, z_00, z_10, z_01, z_11, z_neg1, z_nI_NONE, z_div, z_rem, z_rem2, sw_pu_s, sw_pu_n, true_and, and_true, true_or, or_true, if_true, if_false, not_true_eq_false, not_false_eq_true, ha, this]
theorem k67 (hv : sw_kd v = 6) : sw_Cal (d + 2) 67 [.ref v] M Q = Q none (sw_set M (v + 5) (fun j => if j < 4 then -1000000 else M (v + 5) j)) := by
  rw [c67]
  simp (disch := omega) only [s67_0, s67_1, s67_4, s67_6, s67_9, z_lt_t, z_lt_f, z_le_t, z_le_f, z_lt0, z_ge0, z_cl, z_in, z_add, z_eq_f, z_ne0, z_00, z_10, z_01, z_11, z_neg1, z_nI_NONE, z_div, z_rem, z_rem2, sw_pu_s, sw_pu_n, true_and, and_true, true_or, or_true, if_true, if_false, not_true_eq_false, not_false_eq_true, k222 (sw_vk5 hv), sw_vn5 hv]
def upT (T : Tw) (i x : Nat) : Tw := fun j => if j = i then x else T j
theorem upT_s (T : Tw) (i x : Nat) : upT T i x i = x := if_pos rfl
theorem upT_n (T : Tw) {i j : Nat} (x : Nat) (h : j ≠ i) : upT T i x j = T j := if_neg h
theorem IsV_fr (hV : IsV M v T) (h0 : T 0 ≤ 4) (h1 : T 1 ≤ 4) {r : Nat} (hr : r < T 1) (x : Nat) : IsV (sw_up M (v + 2) r (nI x)) v (upT T (29 + r) x) := by
  obtain ⟨hv, ⟨g0, g1, g2, g3, g4⟩, hR, hB⟩ := hV
  refine ⟨hv, ?_, fun q hq => ?_, fun b hb => ?_⟩
  · simp (disch := omega) only [z_up_n, upT_n, g0, g1, g2, g3, g4, and_self]
  · rw [upT_n _ _ (by omega)] at hq
    obtain ⟨r1, r2, r3, r4, r5⟩ := hR q hq
    simp (disch := omega) only [z_up_n, upT_n, r1, r3, r4, r5, true_and, and_true]
    by_cases h : q = r
    · subst h
      rw [z_up_s, upT_s]
    · rw [z_up_j _ _ h, upT_n _ _ (by omega), r2]
  · rw [upT_n _ _ (by omega)] at hb
    obtain ⟨b1, b2, b3, b6⟩ := hB b hb
    simp (disch := omega) only [z_up_n, z_up_j, upT_n, b1, b2, b3, b6, and_self]
theorem IsV_fb (hV : IsV M v T) (h0 : T 0 ≤ 4) (h1 : T 1 ≤ 4) {b : Nat} (hb : b < T 0) (x : Nat) : IsV (sw_up M (v + 2) (4 + b) (nI x)) v (upT T (9 + b) x) := by
  obtain ⟨hv, ⟨g0, g1, g2, g3, g4⟩, hR, hB⟩ := hV
  refine ⟨hv, ?_, fun q hq => ?_, fun c hc => ?_⟩
  · simp (disch := omega) only [z_up_n, upT_n, g0, g1, g2, g3, g4, and_self]
  · rw [upT_n _ _ (by omega)] at hq
    obtain ⟨r1, r2, r3, r4, r5⟩ := hR q hq
    simp (disch := omega) only [z_up_n, z_up_j, upT_n, r1, r2, r3, r4, r5, and_self]
  · rw [upT_n _ _ (by omega)] at hc
    obtain ⟨b1, b2, b3, b6⟩ := hB c hc
    simp (disch := omega) only [z_up_n, upT_n, b1, b3, b6, true_and, and_true]
    by_cases h : c = b
    · subst h
      rw [z_up_s, upT_s]
    · rw [z_up_j _ _ (by omega), upT_n _ _ (by omega), b2]
theorem IsV_fl (hV : IsV M v T) (h0 : T 0 ≤ 4) (h1 : T 1 ≤ 4) {b : Nat} (hb : b < T 0) (x : Nat) : IsV (sw_up M (v + 6) b (nI x)) v (upT T (17 + b) x) := by
  obtain ⟨hv, ⟨g0, g1, g2, g3, g4⟩, hR, hB⟩ := hV
  refine ⟨hv, ?_, fun q hq => ?_, fun c hc => ?_⟩
  · simp (disch := omega) only [z_up_n, upT_n, g0, g1, g2, g3, g4, and_self]
  · rw [upT_n _ _ (by omega)] at hq
    obtain ⟨r1, r2, r3, r4, r5⟩ := hR q hq
    simp (disch := omega) only [z_up_n, z_up_j, upT_n, r1, r2, r3, r4, r5, and_self]
  · rw [upT_n _ _ (by omega)] at hc
    obtain ⟨b1, b2, b3, b6⟩ := hB c hc
    simp (disch := omega) only [z_up_n, upT_n, b1, b2, b3, true_and]
    by_cases h : c = b
    · subst h
      rw [z_up_s, upT_s]
    · rw [z_up_j _ _ h, upT_n _ _ (by omega), b6]
theorem IsV_lie (hV : IsV M v T) (h0 : T 0 ≤ 4) (h1 : T 1 ≤ 4) {r : Nat} (hr : r < T 1) (x : Nat) : IsV (sw_up M (v + 5) r (bn x)) v (upT T (37 + r) x) := by
  obtain ⟨hv, ⟨g0, g1, g2, g3, g4⟩, hR, hB⟩ := hV
  refine ⟨hv, ?_, fun q hq => ?_, fun b hb => ?_⟩
  · simp (disch := omega) only [z_up_n, upT_n, g0, g1, g2, g3, g4, and_self]
  · rw [upT_n _ _ (by omega)] at hq
    obtain ⟨r1, r2, r3, r4, r5⟩ := hR q hq
    simp (disch := omega) only [z_up_n, upT_n, r1, r2, r3, r4, true_and]
    by_cases h : q = r
    · subst h
      rw [z_up_s, upT_s]
    · rw [z_up_j _ _ h, upT_n _ _ (by omega), r5]
  · rw [upT_n _ _ (by omega)] at hb
    obtain ⟨b1, b2, b3, b6⟩ := hB b hb
    simp (disch := omega) only [z_up_n, z_up_j, upT_n, b1, b2, b3, b6, and_self]
theorem IsV_day (hV : IsV M v T) (h0 : T 0 ≤ 4) (h1 : T 1 ≤ 4) (x : Nat) : IsV (sw_up M v 2 (nI x)) v (upT T 4 x) := by
  obtain ⟨hv, ⟨g0, g1, g2, g3, g4⟩, hR, hB⟩ := hV
  refine ⟨hv, ?_, fun q hq => ?_, fun b hb => ?_⟩
  · simp (disch := omega) only [z_up_j, z_up_s, upT_n, upT_s, g0, g1, g3, g4, and_self]
  · rw [upT_n _ _ (by omega)] at hq
    obtain ⟨r1, r2, r3, r4, r5⟩ := hR q hq
    simp (disch := omega) only [z_up_n, upT_n, r1, r2, r3, r4, r5, and_self]
  · rw [upT_n _ _ (by omega)] at hb
    obtain ⟨b1, b2, b3, b6⟩ := hB b hb
    simp (disch := omega) only [z_up_n, upT_n, b1, b2, b3, b6, and_self]
/-- the first runner from r on, of n, that lies on b; 4: none -/
def onF (T : Tw) (b : Nat) : Nat → Nat → Nat
  | 0, _ => 4
  | n + 1, r => if T (37 + r) = b then r else onF T b n (r + 1)
theorem onF_s (T : Tw) (b n r : Nat) : onF T b (n + 1) r = if T (37 + r) = b then r else onF T b n (r + 1) := rfl
def onB (T : Tw) (b : Nat) : Nat := onF T b (T 1) 0
theorem k66L (hV : IsV M v T) (hW : WF T) {b : Nat} (hb : b < 4) : ∀ n r, r + n = T 1 → sw_WP d 66 2 [.ref v, .int (nI b), .int (nI r)] [] M Q = Q (some (.int (bn (onF T b n r)))) M := by
  obtain ⟨hv, ⟨-, -, -, -, h1⟩, hR, -⟩ := hV
  obtain ⟨w0, w1, -, -, -, wr, -, -⟩ := hW
  intro n
  induction n with
  | zero =>
    intro r h
    rw [s66_2]
    simp (disch := omega) only [s66_0, s66_1, s66_3, s66_4, s66_7, s66_10, s66_11, s66_14, s66_15, s66_16, s66_17, s66_20, s66_21, s66_22, s66_25, s66_28, s66_30, z_lt_t, z_lt_f, z_le_t, z_le_f, z_lt0, z_ge0, z_cl, z_in, z_add, z_eq_f, z_ne0, z_00, z_10, z_01, z_11, z_neg1, z_nI_NONE, z_div, z_rem, z_rem2, sw_pu_s, sw_pu_n, true_and, and_true, true_or, or_true, if_true, if_false, not_true_eq_false, not_false_eq_true, h1]
    rfl
  | succ n ih =>
    intro r h
    obtain ⟨r1, r2, r3, r4, r5⟩ := hR r (by omega)
    obtain ⟨-, -, -, -, -, y6⟩ := wr r (by omega)
    have := ih (r + 1) (by omega)
    rw [s66_2]
    simp (disch := omega) only [s66_0, s66_1, s66_3, s66_4, s66_7, s66_10, s66_11, s66_14, s66_15, s66_16, s66_17, s66_20, s66_21, s66_22, s66_25, s66_28, s66_30, z_lt_t, z_lt_f, z_le_t, z_le_f, z_lt0, z_ge0, z_cl, z_in, z_add, z_eq_f, z_ne0, z_00, z_10, z_01, z_11, z_neg1, z_nI_NONE, z_div, z_rem, z_rem2, sw_pu_s, sw_pu_n, true_and, and_true, true_or, or_true, if_true, if_false, not_true_eq_false, not_false_eq_true, h1, r5, z_bn_b, this]
    rw [onF_s]
    by_cases h : T (37 + r) = b
    · simp only [h, if_true, not_true_eq_false, if_false, bn_n (show r ≠ 4 by omega)]
    · simp only [h, if_false, not_false_eq_true, if_true]
theorem k66 (hV : IsV M v T) (hW : WF T) {b : Nat} (hb : b < 4) : sw_Cal (d + 1) 66 [.ref v, .int (nI b)] M Q = Q (some (.int (bn (onB T b)))) M := by
  have := k66L (d := d) (Q := Q) hV hW hb (T 1) 0 (by omega)
  have hv := hV.1
  rw [c66]
  simp (disch := omega) only [s66_0, s66_1, s66_3, s66_4, s66_7, s66_10, s66_11, s66_14, s66_15, s66_16, s66_17, s66_20, s66_21, s66_22, s66_25, s66_28, s66_30, z_lt_t, z_lt_f, z_le_t, z_le_f, z_lt0, z_ge0, z_cl, z_in, z_add, z_eq_f, z_ne0, z_00, z_10, z_01, z_11, z_neg1, z_nI_NONE, z_div, z_rem, z_rem2, sw_pu_s, sw_pu_n, true_and, and_true, true_or, or_true, if_true, if_false, not_true_eq_false, not_false_eq_true, this]
  rfl
/-- how much a runner grinds now -/
def gnT (T : Tw) (r : Nat) : Nat := if T (37 + r) = 4 then 0 else grT T r (T (37 + r))
theorem k68 (hV : IsV M v T) (hW : WF T) {r : Nat} (hr : r < T 1) : sw_Cal (d + 3) 68 [.ref v, .int (nI r)] M Q = Q (some (.int (nI (gnT T r)))) M := by
  have h69 := fun b hb Q => k69 (d := d) (Q := Q) (b := b) hV hW hr hb
  obtain ⟨hv, -, hR, -⟩ := hV
  obtain ⟨w0, w1, -, -, -, wr, -, -⟩ := hW
  obtain ⟨r1, r2, r3, r4, r5⟩ := hR r hr
  obtain ⟨-, -, -, -, -, y6⟩ := wr r hr
  rw [c68]
  simp (disch := omega) only [s68_0, s68_1, s68_4, s68_5, s68_6, s68_7, s68_8, s68_10, s68_13, s68_14, s68_17, s68_18, s68_19, s68_20, s68_23, z_lt_t, z_lt_f, z_le_t, z_le_f, z_lt0, z_ge0, z_cl, z_in, z_add, z_eq_f, z_ne0, z_00, z_10, z_01, z_11, z_neg1, z_nI_NONE, z_div, z_rem, z_rem2, sw_pu_s, sw_pu_n, true_and, and_true, true_or, or_true, if_true, if_false, not_true_eq_false, not_false_eq_true, r5]
  unfold gnT
  by_cases h : T (37 + r) = 4
  · simp only [s68_0, s68_1, s68_4, s68_5, s68_6, s68_7, s68_8, s68_10, s68_13, s68_14, s68_17, s68_18, s68_19, s68_20, s68_23, h, bn_4, z_lt_t, z_lt_f, z_le_t, z_le_f, z_lt0, z_ge0, z_cl, z_in, z_add, z_eq_f, z_ne0, z_00, z_10, z_01, z_11, z_neg1, z_nI_NONE, z_div, z_rem, z_rem2, sw_pu_s, sw_pu_n, true_and, and_true, true_or, or_true, if_true, if_false, not_true_eq_false, not_false_eq_true]
  · have := h69 (T (37 + r)) (by omega)
    simp (disch := omega) only [s68_0, s68_1, s68_4, s68_5, s68_6, s68_7, s68_8, s68_10, s68_13, s68_14, s68_17, s68_18, s68_19, s68_20, s68_23, h, bn_n, z_lt_t, z_lt_f, z_le_t, z_le_f, z_lt0, z_ge0, z_cl, z_in, z_add, z_eq_f, z_ne0, z_00, z_10, z_01, z_11, z_neg1, z_nI_NONE, z_div, z_rem, z_rem2, sw_pu_s, sw_pu_n, true_and, and_true, true_or, or_true, if_true, if_false, not_true_eq_false, not_false_eq_true, this]
/-- who of the first n runners lies on b; 4: none -/
def wh (T : Tw) (b : Nat) : Nat → Nat
  | 0 => 4
  | n + 1 => if T (37 + n) = b then n else wh T b n
def wT (T : Tw) : Nat := if 0 < T 2 ∧ T 4 % T 2 = 0 then 1 else 0
def sT (T : Tw) (r : Nat) : Nat := if T (21 + r) = 3 then 1 else 0
theorem wT_le (T : Tw) : wT T ≤ 1 := by unfold wT; split <;> omega
theorem sT_le (T : Tw) (r : Nat) : sT T r ≤ 1 := by unfold sT; split <;> omega
theorem k65a (hV : IsV M v T) (hW : WF T) {i : Nat} (hi : i < 4) : sw_Cal (d + 2) 65 [.ref v, .int (nI i)] M Q = if i < T 1 then Q (some (.int (nI 1))) M else Q (some (.int (nI 0))) M := by
  have h63 := fun x Q => k63 (d := d) (Q := Q) hV hW x
  have hv := hV.1
  obtain ⟨w0, w1, -⟩ := hW
  rw [c65]
  simp (disch := omega) only [s65_0, s65_1, s65_2, s65_5, s65_6, s65_7, s65_10, s65_13, s65_14, s65_15, s65_16, s65_17, s65_20, z_lt_t, z_lt_f, z_le_t, z_le_f, z_lt0, z_ge0, z_cl, z_in, z_add, z_eq_f, z_ne0, z_00, z_10, z_01, z_11, z_neg1, z_nI_NONE, z_div, z_rem, z_rem2, sw_pu_s, sw_pu_n, true_and, and_true, true_or, or_true, if_true, if_false, not_true_eq_false, not_false_eq_true, h63, z_ib]
theorem k65b (hV : IsV M v T) (hW : WF T) {i : Nat} (hi : i < 4) : sw_Cal (d + 2) 65 [.ref v, .int (nI (4 + i))] M Q = if i < T 0 then Q (some (.int (nI 1))) M else Q (some (.int (nI 0))) M := by
  have h64 := fun x Q => k64 (d := d) (Q := Q) hV hW x
  have hv := hV.1
  obtain ⟨w0, w1, -⟩ := hW
  rw [c65]
  simp (disch := omega) only [s65_0, s65_1, s65_2, s65_5, s65_6, s65_7, s65_10, s65_13, s65_14, s65_15, s65_16, s65_17, s65_20, z_lt_t, z_lt_f, z_le_t, z_le_f, z_lt0, z_ge0, z_cl, z_in, z_add, z_eq_f, z_ne0, z_00, z_10, z_01, z_11, z_neg1, z_nI_NONE, z_div, z_rem, z_rem2, sw_pu_s, sw_pu_n, true_and, and_true, true_or, or_true, if_true, if_false, not_true_eq_false, not_false_eq_true, h64, z_ib, z_sub, Nat.add_sub_cancel_left]
theorem k74 (hv : sw_kd v = 6) {i x : Nat} (hi : i < 8) (hx : x < 2 ^ 30) (hm : M (v + 2) i = nI x) : sw_Cal (d + 1) 74 [.ref v, .int (nI i)] M Q = Q none (sw_up M (v + 2) i (nI (x - 1))) := by
  rw [c74]
  simp (disch := omega) only [s74_0, s74_1, s74_4, s74_5, s74_6, s74_9, s74_10, s74_13, s74_14, s74_15, s74_16, s74_17, s74_18, s74_19, z_lt_t, z_lt_f, z_le_t, z_le_f, z_lt0, z_ge0, z_cl, z_in, z_add, z_eq_f, z_ne0, z_00, z_10, z_01, z_11, z_neg1, z_nI_NONE, z_div, z_rem, z_rem2, sw_pu_s, sw_pu_n, true_and, and_true, true_or, or_true, if_true, if_false, not_true_eq_false, not_false_eq_true, hm, z_le0]
  by_cases h : x = 0
  · subst h
    simp only [if_true, Nat.zero_sub, sw_up_id hm]
  · simp (disch := omega) only [h, if_false, z_sub]
theorem k73 (hV : IsV M v T) (hW : WF T) {r b : Nat} (hr : r < T 1) (hb : b < T 0) : sw_Cal (d + 2) 73 [.ref v, .int (nI r), .int (nI b)] M Q = Q none (sw_up (sw_up M (v + 2) r (nI (T (29 + r) - wT T))) (v + 2) (4 + b) (nI (T (9 + b) - wT T - sT T r))) := by
  obtain ⟨hv, ⟨g0, -, g2, -, -⟩, hR, hB⟩ := hV
  obtain ⟨w0, w1, w2, w3, w4, wr, wb, -⟩ := hW
  obtain ⟨r1, r2, r3, r4, r5⟩ := hR r hr
  obtain ⟨b1, b2, b3, b6⟩ := hB b hb
  obtain ⟨y1, y2, y3, y4, y5, -⟩ := wr r hr
  obtain ⟨z1, z2, z3⟩ := wb b hb
  have hs : ∀ (M1 : sw_Mem) (x : Nat), x < 2 ^ 30 → M1 (v + 4) r = nI (T (21 + r)) → M1 (v + 2) (4 + b) = nI x → sw_WP (d + 1) 73 31 [.ref v, .int (nI r), .int (nI b)] [] M1 Q = Q none (sw_up M1 (v + 2) (4 + b) (nI (x - sT T r))) := by
    intro M1 x hx h4 h2
    have h74 := fun Q => k74 (d := d) (Q := Q) hv (show 4 + b < 8 by omega) hx h2
    simp (disch := omega) only [s73_31, s73_32, s73_35, s73_36, s73_37, s73_38, s73_41, s73_42, s73_43, s73_44, s73_45, s73_48, z_lt_t, z_lt_f, z_le_t, z_le_f, z_lt0, z_ge0, z_cl, z_in, z_add, z_eq_f, z_ne0, z_00, z_10, z_01, z_11, z_neg1, z_nI_NONE, z_div, z_rem, z_rem2, sw_pu_s, sw_pu_n, true_and, and_true, true_or, or_true, if_true, if_false, not_true_eq_false, not_false_eq_true, h4, h74, z_eq]
    unfold sT
    by_cases h : T (21 + r) = 3
    · simp only [h, z_lt_t, z_lt_f, z_le_t, z_le_f, z_lt0, z_ge0, z_cl, z_in, z_add, z_eq_f, z_ne0, z_00, z_10, z_01, z_11, z_neg1, z_nI_NONE, z_div, z_rem, z_rem2, sw_pu_s, sw_pu_n, true_and, and_true, true_or, or_true, if_true, if_false, not_true_eq_false, not_false_eq_true]
    · simp only [h, z_lt_t, z_lt_f, z_le_t, z_le_f, z_lt0, z_ge0, z_cl, z_in, z_add, z_eq_f, z_ne0, z_00, z_10, z_01, z_11, z_neg1, z_nI_NONE, z_div, z_rem, z_rem2, sw_pu_s, sw_pu_n, true_and, and_true, true_or, or_true, if_true, if_false, not_true_eq_false, not_false_eq_true, Nat.sub_zero, sw_up_id h2]
  have h74r := fun Q => k74 (d := d) (Q := Q) hv (show r < 8 by omega) (show T (29 + r) < 2 ^ 30 by omega) r2
  have e2 : sw_up M (v + 2) r (nI (T (29 + r) - 1)) (v + 2) (4 + b) = nI (T (9 + b)) := by rw [z_up_j _ _ (by omega), b2]
  have h74b := fun Q => k74 (d := d) (Q := Q) hv (show 4 + b < 8 by omega) (show T (9 + b) < 2 ^ 30 by omega) e2
  have hs1 := hs (sw_up (sw_up M (v + 2) r (nI (T (29 + r) - 1))) (v + 2) (4 + b) (nI (T (9 + b) - 1))) (T (9 + b) - 1) (by omega) (by rw [z_up_n _ _ (by omega), z_up_n _ _ (by omega)]; exact r4) (z_up_s _ _ _ _)
  have hs0 := hs M (T (9 + b)) (by omega) r4 b2
  rw [c73]
  unfold wT
  by_cases h2 : 0 < T 2
  · by_cases h4 : T 4 % T 2 = 0
    · simp (disch := omega) only [s73_0, s73_1, s73_4, s73_7, s73_8, s73_11, s73_12, s73_15, s73_16, s73_19, s73_20, s73_21, s73_24, s73_25, s73_26, s73_27, s73_28, z_lt_t, z_lt_f, z_le_t, z_le_f, z_lt0, z_ge0, z_cl, z_in, z_add, z_eq_f, z_ne0, z_00, z_10, z_01, z_11, z_neg1, z_nI_NONE, z_div, z_rem, z_rem2, sw_pu_s, sw_pu_n, true_and, and_true, true_or, or_true, if_true, if_false, not_true_eq_false, not_false_eq_true, g0, g2, z_le0, show ¬ T 2 = 0 by omega, h74r, h74b, hs1, h4, h2, and_self, sw_up_up]
    · have h5 : 0 < T 4 % T 2 := by omega
      have h6 : T 4 % T 2 < T 2 := Nat.mod_lt _ h2
      simp (disch := omega) only [s73_0, s73_1, s73_4, s73_7, s73_8, s73_11, s73_12, s73_15, s73_16, s73_19, s73_20, s73_21, s73_24, s73_25, s73_26, s73_27, s73_28, z_lt_t, z_lt_f, z_le_t, z_le_f, z_lt0, z_ge0, z_cl, z_in, z_add, z_eq_f, z_ne0, z_00, z_10, z_01, z_11, z_neg1, z_nI_NONE, z_div, z_rem, z_rem2, sw_pu_s, sw_pu_n, true_and, and_true, true_or, or_true, if_true, if_false, not_true_eq_false, not_false_eq_true, g0, g2, z_le0, show ¬ T 2 = 0 by omega, hs0, h4, and_false, Nat.sub_zero, sw_up_id r2]
  · simp (disch := omega) only [s73_0, s73_1, s73_4, s73_7, s73_8, s73_11, s73_12, s73_15, s73_16, s73_19, s73_20, s73_21, s73_24, s73_25, s73_26, s73_27, s73_28, z_lt_t, z_lt_f, z_le_t, z_le_f, z_lt0, z_ge0, z_cl, z_in, z_add, z_eq_f, z_ne0, z_00, z_10, z_01, z_11, z_neg1, z_nI_NONE, z_div, z_rem, z_rem2, sw_pu_s, sw_pu_n, true_and, and_true, true_or, or_true, if_true, if_false, not_true_eq_false, not_false_eq_true, g0, z_le0, show T 2 = 0 by omega, hs0, Nat.lt_irrefl, false_and, Nat.sub_zero, sw_up_id r2]
/-- a day's first n runners: flour, furrows -/
def pf (T : Tw) (n : Nat) : Tw := fun i =>
  if 17 ≤ i ∧ i < 21 then T i + (if wh T (i - 17) n < 4 then grT T (wh T (i - 17) n) (i - 17) else 0)
  else if 29 ≤ i ∧ i < 33 then (if i - 29 < n ∧ T (37 + (i - 29)) ≠ 4 then T i - wT T else T i)
  else if 9 ≤ i ∧ i < 13 then (if wh T (i - 9) n < 4 then T i - wT T - sT T (wh T (i - 9) n) else T i)
  else T i
theorem pf_fl (T : Tw) (n : Nat) {b : Nat} (hb : b < 4) : pf T n (17 + b) = T (17 + b) + (if wh T b n < 4 then grT T (wh T b n) b else 0) := by
  unfold pf
  rw [if_pos (by omega), Nat.add_sub_cancel_left]
theorem pf_fr (T : Tw) (n : Nat) {r : Nat} (hr : r < 4) : pf T n (29 + r) = if r < n ∧ T (37 + r) ≠ 4 then T (29 + r) - wT T else T (29 + r) := by
  unfold pf
  rw [if_neg (by omega), if_pos (by omega), Nat.add_sub_cancel_left]
theorem pf_fb (T : Tw) (n : Nat) {b : Nat} (hb : b < 4) : pf T n (9 + b) = if wh T b n < 4 then T (9 + b) - wT T - sT T (wh T b n) else T (9 + b) := by
  unfold pf
  rw [if_neg (by omega), if_neg (by omega), if_pos (by omega), Nat.add_sub_cancel_left]
theorem pf_o (T : Tw) (n : Nat) {i : Nat} (h1 : i < 17 ∨ 21 ≤ i) (h2 : i < 29 ∨ 33 ≤ i) (h3 : i < 9 ∨ 13 ≤ i) : pf T n i = T i := by
  unfold pf
  rw [if_neg (by omega), if_neg (by omega), if_neg (by omega)]
theorem wh_4 {T : Tw} {b n : Nat} (hb : b < 4) (h : ∀ q, q < n → T (37 + q) ≠ b) : wh T b n = 4 := by
  induction n with
  | zero => rfl
  | succ n ih =>
    show (if T (37 + n) = b then n else wh T b n) = 4
    rw [if_neg (h n (Nat.lt_succ_self n)), ih (fun q hq => h q (by omega))]
theorem wh_s (T : Tw) (b n : Nat) : wh T b (n + 1) = if T (37 + n) = b then n else wh T b n := rfl
theorem pf_0 (T : Tw) : pf T 0 = T := by
  funext i
  unfold pf
  simp only [wh, Nat.lt_irrefl, if_false, Nat.add_zero, Nat.not_lt_zero, false_and, ite_self]
/-- one runner of a day, as the class does it -/
def cst (T : Tw) (r : Nat) : Tw := if T (37 + r) = 4 then T else
  upT (upT (upT T (17 + T (37 + r)) (T (17 + T (37 + r)) + grT T r (T (37 + r)))) (29 + r) (T (29 + r) - wT T)) (9 + T (37 + r)) (T (9 + T (37 + r)) - wT T - sT T r)
theorem gr_cong {T S : Tw} {r b : Nat} (h3 : S 3 = T 3) (h4 : S 4 = T 4) (k : S (21 + r) = T (21 + r)) (r1 : S (25 + r) = T (25 + r)) (r2 : S (29 + r) = T (29 + r)) (r3 : S (33 + r) = T (33 + r)) (b1 : S (5 + b) = T (5 + b)) (b2 : S (9 + b) = T (9 + b)) (b3 : S (13 + b) = T (13 + b)) : grT S r b = grT T r b := by
  unfold grT gip
  rw [h3, h4, k, r1, r2, r3, b1, b2, b3]
theorem pf_lie (T : Tw) (n r : Nat) : pf T n (37 + r) = T (37 + r) := pf_o T n (by omega) (by omega) (by omega)
/-- a runner's bed has no other one on it -/
theorem wh_own {T : Tw} (hW : WF T) {n : Nat} (hn : n < T 1) (h4 : T (37 + n) ≠ 4) : wh T (T (37 + n)) n = 4 := by
  obtain ⟨w0, w1, -, -, -, wr, -, wi⟩ := hW
  have := (wr n hn).2.2.2.2.2
  exact wh_4 (by omega) (fun q hq e => by have := wi q (by omega) n hn e (by omega); omega)
theorem pf_gr {T : Tw} (hW : WF T) {n : Nat} (hn : n < T 1) (h4 : T (37 + n) ≠ 4) : grT (pf T n) n (T (37 + n)) = grT T n (T (37 + n)) := by
  have ho := wh_own hW hn h4
  obtain ⟨w0, w1, -, -, -, wr, -, wi⟩ := hW
  have y6 := (wr n hn).2.2.2.2.2
  refine gr_cong (pf_o _ _ (by omega) (by omega) (by omega)) (pf_o _ _ (by omega) (by omega) (by omega)) (pf_o _ _ (by omega) (by omega) (by omega)) (pf_o _ _ (by omega) (by omega) (by omega)) ?_ (pf_o _ _ (by omega) (by omega) (by omega)) (pf_o _ _ (by omega) (by omega) (by omega)) ?_ (pf_o _ _ (by omega) (by omega) (by omega))
  · rw [pf_fr _ _ (by omega), if_neg (by omega)]
  · rw [pf_fb _ _ (by omega), ho, if_neg (by omega)]
theorem pf_wT (T : Tw) (n : Nat) : wT (pf T n) = wT T := by
  unfold wT
  rw [pf_o _ _ (by omega) (by omega) (by omega), pf_o _ _ (by omega) (by omega) (by omega)]
theorem pf_sT (T : Tw) (n r : Nat) (hr : r < 4) : sT (pf T n) r = sT T r := by
  unfold sT
  rw [pf_o _ _ (by omega) (by omega) (by omega)]
theorem cst_pf {T : Tw} (hW : WF T) {n : Nat} (hn : n < T 1) : cst (pf T n) n = pf T (n + 1) := by
  have hW' := hW
  obtain ⟨w0, w1, -, -, -, wr, -, wi⟩ := hW'
  have y6 := (wr n hn).2.2.2.2.2
  unfold cst
  rw [pf_lie]
  by_cases h4 : T (37 + n) = 4
  · rw [if_pos h4]
    funext i
    have hwh : ∀ b, b < 4 → wh T b (n + 1) = wh T b n := fun b hb => by rw [wh_s, if_neg (by omega)]
    by_cases a1 : 17 ≤ i ∧ i < 21
    · obtain ⟨b, rfl⟩ : ∃ b, i = 17 + b := ⟨i - 17, by omega⟩
      rw [pf_fl _ _ (by omega), pf_fl _ _ (by omega), hwh _ (by omega)]
    · by_cases a2 : 29 ≤ i ∧ i < 33
      · obtain ⟨r, rfl⟩ : ∃ r, i = 29 + r := ⟨i - 29, by omega⟩
        rw [pf_fr _ _ (by omega), pf_fr _ _ (by omega)]
        by_cases e : r = n
        · subst e
          rw [if_neg (by omega), if_neg (by omega)]
        · by_cases c : r < n ∧ T (37 + r) ≠ 4
          · rw [if_pos c, if_pos (by omega)]
          · rw [if_neg c, if_neg (by omega)]
      · by_cases a3 : 9 ≤ i ∧ i < 13
        · obtain ⟨b, rfl⟩ : ∃ b, i = 9 + b := ⟨i - 9, by omega⟩
          rw [pf_fb _ _ (by omega), pf_fb _ _ (by omega), hwh _ (by omega)]
        · rw [pf_o _ _ (by omega) (by omega) (by omega), pf_o _ _ (by omega) (by omega) (by omega)]
  · rw [if_neg h4, pf_gr hW hn h4, pf_wT, pf_sT _ _ _ (by omega)]
    have ho := wh_own hW hn h4
    generalize hb : T (37 + n) = b at h4 y6 ho
    have hwh : ∀ c, c ≠ b → wh T c (n + 1) = wh T c n := fun c hc => by rw [wh_s, if_neg (by omega)]
    have hwb : wh T b (n + 1) = n := by rw [wh_s, if_pos hb]
    rw [pf_fl _ _ (by omega), pf_fr _ _ (by omega), pf_fb _ _ (by omega), ho, if_neg (by omega), if_neg (by omega), if_neg (by omega), Nat.add_zero]
    funext i
    by_cases a1 : 17 ≤ i ∧ i < 21
    · obtain ⟨c, rfl⟩ : ∃ c, i = 17 + c := ⟨i - 17, by omega⟩
      rw [upT_n _ _ (by omega), upT_n _ _ (by omega)]
      by_cases e : c = b
      · subst e
        rw [upT_s, pf_fl _ _ (by omega), hwb, if_pos (by omega)]
      · rw [upT_n _ _ (by omega), pf_fl _ _ (by omega), pf_fl _ _ (by omega), hwh _ e]
    · by_cases a2 : 29 ≤ i ∧ i < 33
      · obtain ⟨r, rfl⟩ : ∃ r, i = 29 + r := ⟨i - 29, by omega⟩
        rw [upT_n _ _ (by omega)]
        by_cases e : r = n
        · subst e
          rw [upT_s, pf_fr _ _ (by omega), if_pos (by omega)]
        · rw [upT_n _ _ (by omega), upT_n _ _ (by omega), pf_fr _ _ (by omega), pf_fr _ _ (by omega)]
          by_cases c : r < n ∧ T (37 + r) ≠ 4
          · rw [if_pos c, if_pos (by omega)]
          · rw [if_neg c, if_neg (by omega)]
      · by_cases a3 : 9 ≤ i ∧ i < 13
        · obtain ⟨c, rfl⟩ : ∃ c, i = 9 + c := ⟨i - 9, by omega⟩
          by_cases e : c = b
          · subst e
            rw [upT_s, pf_fb _ _ (by omega), hwb, if_pos (by omega)]
          · rw [upT_n _ _ (by omega), upT_n _ _ (by omega), upT_n _ _ (by omega), pf_fb _ _ (by omega), pf_fb _ _ (by omega), hwh _ e]
        · rw [upT_n _ _ (by omega), upT_n _ _ (by omega), upT_n _ _ (by omega), pf_o _ _ (by omega) (by omega) (by omega), pf_o _ _ (by omega) (by omega) (by omega)]
theorem WF_pf {T : Tw} (hW : WF T) (n : Nat) : WF (pf T n) := by
  obtain ⟨w0, w1, w2, w3, w4, wr, wb, wi⟩ := hW
  have e : ∀ i, i < 9 → pf T n i = T i := fun i hi => pf_o _ _ (by omega) (by omega) (by omega)
  refine ⟨by rw [e _ (by omega)]; exact w0, by rw [e _ (by omega)]; exact w1, by rw [e _ (by omega)]; exact w2, by rw [e _ (by omega)]; exact w3, by rw [e _ (by omega)]; exact w4, fun r hr => ?_, fun b hb => ?_, fun r hr q hq h h4 => ?_⟩
  · rw [e _ (by omega)] at hr
    obtain ⟨y1, y2, y3, y4, y5, y6⟩ := wr r hr
    rw [pf_o T n (i := 21 + r) (by omega) (by omega) (by omega), pf_o T n (i := 25 + r) (by omega) (by omega) (by omega), pf_o T n (i := 33 + r) (by omega) (by omega) (by omega), pf_lie, e 0 (by omega), pf_fr _ _ (by omega)]
    refine ⟨y1, y2, y3, ?_, y5, y6⟩
    split <;> omega
  · rw [e _ (by omega)] at hb
    obtain ⟨z1, z2, z3⟩ := wb b hb
    rw [pf_o T n (i := 5 + b) (by omega) (by omega) (by omega), pf_o T n (i := 13 + b) (by omega) (by omega) (by omega), pf_fb _ _ (by omega)]
    refine ⟨z1, ?_, z3⟩
    split <;> omega
  · rw [e _ (by omega)] at hr hq
    rw [pf_lie] at h h4
    rw [pf_lie] at h
    exact wi r hr q hq h h4
end VAM
