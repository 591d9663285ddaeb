/-! what was heard -/
def b1 (x : Bool) : Int32 := if x = true then nI 1 else nI 0
theorem b1_t : b1 true = nI 1 := rfl
theorem b1_f : b1 false = nI 0 := rfl
def ftB (g : Tw → Nat) (h : Nat → Int32) : Nat → Nat → Tw → Bool
  | 0, _, _ => true
  | n + 1, j, T => decide (nI (g T) = h j) && ftB g h n (j + 1) (psT T)
theorem ftB_0 (g : Tw → Nat) (h : Nat → Int32) (j : Nat) (T : Tw) : ftB g h 0 j T = true := rfl
theorem ftB_t {g : Tw → Nat} {h : Nat → Int32} {n j : Nat} {T : Tw} (e : nI (g T) = h j) : ftB g h (n + 1) j T = ftB g h n (j + 1) (psT T) := by
  show (decide (nI (g T) = h j) && _) = _
  rw [decide_eq_true e, Bool.true_and]
theorem ftB_f {g : Tw → Nat} {h : Nat → Int32} {n j : Nat} {T : Tw} (e : ¬ nI (g T) = h j) : ftB g h (n + 1) j T = false := by
  show (decide (nI (g T) = h j) && _) = _
  rw [decide_eq_false e, Bool.false_and]
def orb (P : Nat → Bool) : Nat → Nat → Int32 → Int32
  | 0, _, a => a
  | n + 1, k, a => orb P n (k + 1) (a ||| (if P k = true then nI 1 <<< (nI k &&& 31) else nI 0))
theorem orb_s (P : Nat → Bool) (n k : Nat) (a : Int32) : orb P (n + 1) k a = orb P n (k + 1) (a ||| (if P k = true then nI 1 <<< (nI k &&& 31) else nI 0)) := rfl
theorem orb_0 (P : Nat → Bool) (k : Nat) (a : Int32) : orb P 0 k a = a := rfl
theorem orb_c {P P' : Nat → Bool} : ∀ n k a, (∀ j, k ≤ j → j < k + n → P j = P' j) → orb P n k a = orb P' n k a := by
  intro n
  induction n with
  | zero => intro k a _; rfl
  | succ n ih =>
    intro k a h
    rw [orb_s, orb_s, h k (by omega) (by omega), ih (k + 1) _ (fun j h1 h2 => h j (by omega) (by omega))]
theorem orb_add (P : Nat → Bool) : ∀ m n k a, orb P (m + n) k a = orb P n (k + m) (orb P m k a) := by
  intro m
  induction m with
  | zero => intro n k a; rw [Nat.zero_add]; rfl
  | succ m ih =>
    intro n k a
    rw [show m + 1 + n = (m + n) + 1 by omega, orb_s, orb_s, ih, show k + 1 + m = k + (m + 1) by omega]
theorem or_n0 (a : Int32) : a ||| nI 0 = a := by rw [nI_0]; exact Int32.or_zero
theorem orb_no {P : Nat → Bool} : ∀ n k a, (∀ j, k ≤ j → j < k + n → P j = false) → orb P n k a = a := by
  intro n
  induction n with
  | zero => intro k a _; rfl
  | succ n ih =>
    intro k a h
    rw [orb_s, h k (by omega) (by omega), ih (k + 1) _ (fun j h1 h2 => h j (by omega) (by omega)), if_neg (by decide), or_n0]
/-- of the first t of four, and of the fifth -/
theorem orb_5 {P P' : Nat → Bool} {t : Nat} (ht : t ≤ 4) (h1 : ∀ j, j < t → P j = P' j) (h2 : ∀ j, t ≤ j → j < 4 → P j = false) : orb P 5 0 (nI 0) = if P 4 = true then orb P' t 0 (nI 0) ||| nI 16 else orb P' t 0 (nI 0) := by
  have e : 5 = t + ((4 - t) + 1) := by omega
  rw [e, orb_add, orb_add, orb_no (4 - t) _ _ (fun j q1 q2 => h2 j (by omega) (by omega)), orb_c t 0 _ (fun j q1 q2 => h1 j (by omega)), orb_s, orb_0, show 0 + t + (4 - t) = 4 by omega]
  by_cases c : P 4 = true
  · rw [if_pos c, if_pos c]
    rfl
  · rw [if_neg c, if_neg c, or_n0]
def dfl (b : Nat) (T : Tw) : Nat := if wh T b (T 1) < 4 then grT T (wh T b (T 1)) b else 0
/-- only r lies -/
theorem gs_al {C : Tw} {r : Nat} (hr : r < C 1) (h : ∀ q, q < C 1 → q ≠ r → C (37 + q) = 4) : gsT C = gnT C r := by
  rw [gsT_sm]
  have key : ∀ n, n ≤ C 1 → sm (gnT C) n = if r < n then gnT C r else 0 := by
    intro n
    induction n with
    | zero => intro _; rfl
    | succ n ih =>
      intro hn
      show sm _ n + gnT C n = _
      rw [ih (by omega)]
      by_cases e : n = r
      · subst e
        rw [if_neg (by omega), if_pos (by omega), Nat.zero_add]
      · have e0 : gnT C n = 0 := if_pos (h n (by omega) e)
        rw [e0]
        by_cases h2 : r < n
        · rw [if_pos h2, if_pos (by omega), Nat.add_zero]
        · rw [if_neg h2, if_neg (by omega)]
  rw [key (C 1) (Nat.le_refl _), if_pos hr]
theorem ft_eq {h : Nat → Int32} {r b : Nat} (hb : b < 4) : ∀ n j (C S : Tw), PA C S r b → WF C → WF S → r < C 1 → r < S 1 → C (37 + r) = b → S (37 + r) = b → (∀ q, q < C 1 → q ≠ r → C (37 + q) = 4) → C 4 + n ≤ 2000 → ftB gsT h n j C = ftB (dfl b) h n j S := by
  intro n
  induction n with
  | zero => intro j C S _ _ _ _ _ _ _ _ _; rfl
  | succ n ih =>
    intro j C S hP hW hW' hr hr' hc hs ho h4
    have w1 := hW.2.1
    have w1' := hW'.2.1
    have e4 := hP.2.2.1
    have o0 : ∀ (T : Tw) i, (i = 1 ∨ 37 ≤ i) → psT T i = T i := fun T i hi => psT_o T (by omega) (by omega) (by omega) (by omega)
    have e : gsT C = dfl b S := by
      rw [gs_al hr ho]
      unfold gnT dfl
      rw [wh_r hW' hr' hs (by omega) (S 1) hr' (Nat.le_refl _), hc, if_neg (show ¬ b = 4 by omega), if_pos (show r < 4 by omega), PA_gr hP]
    have := ih (j + 1) (psT C) (psT S) (PA_ps hP hW hW' hr hr' hc hs hb) (WF_ps hW (by omega)) (WF_ps hW' (by omega)) (by rw [o0 _ _ (by omega)]; exact hr) (by rw [o0 _ _ (by omega)]; exact hr') (by rw [o0 _ _ (by omega)]; exact hc) (by rw [o0 _ _ (by omega)]; exact hs) (fun q hq hqr => by rw [o0 _ _ (by omega)] at hq ⊢; exact ho q hq hqr) (by rw [psT_4]; omega)
    show (decide (nI (gsT C) = h j) && _) = (decide (nI (dfl b S) = h j) && _)
    rw [e, this]
theorem ft_no {h : Nat → Int32} {b : Nat} (hb : b < 4) : ∀ n j (C : Tw), (∀ q, q < C 1 → C (37 + q) = 4) → ftB gsT h n j C = ftB (dfl b) h n j C := by
  intro n
  induction n with
  | zero => intro j C _; rfl
  | succ n ih =>
    intro j C ho
    have o0 : ∀ (T : Tw) i, (i = 1 ∨ 37 ≤ i) → psT T i = T i := fun T i hi => psT_o T (by omega) (by omega) (by omega) (by omega)
    have e : gsT C = dfl b C := by
      have e1 : gsT C = 0 := by
        rw [gsT_sm, sm_cong (f := gnT C) (g := fun _ => 0) (fun q hq => (if_pos (ho q hq) : gnT C q = 0)), sm_0]
      have e2 : dfl b C = 0 := by
        unfold dfl
        rw [wh_4 hb (fun q hq => by rw [ho q hq]; omega), if_neg (by omega)]
      rw [e1, e2]
    have := ih (j + 1) (psT C) (fun q hq => by rw [o0 _ _ (by omega)] at hq ⊢; exact ho q hq)
    show (decide (nI (gsT C) = h j) && _) = (decide (nI (dfl b C) = h j) && _)
    rw [e, this]
section FIT
variable {d n : Nat} {T : Tw} {ρ : Rw} {h : Nat → Int32} {M N : sw_Mem} {Q : Option Value → sw_Mem → Prop}
theorem k15L (hn : n ≤ 16) : ∀ m j F (M : sw_Mem) (T : Tw), j + m = n → IsV M 83 T → WF T → FB T F → F + 36 * m ≤ 1000000 → T 4 + m ≤ 2000 → M 82 2 = nI n → (∀ j, j < n → M 90 j = h j) →
    ∃ M', Off M M' 83 ∧ ∀ Q, sw_WP (d + 4) 15 2 [.ref 82, .int (nI j)] [] M Q = Q (some (.int (b1 (ftB gsT h m j T)))) M' := by
  intro m
  induction m with
  | zero =>
    intro j F M T hj hV hW hF hFF h4 h2 hh
    obtain rfl : j = n := by omega
    refine ⟨M, Off.rf, fun Q => ?_⟩
    rw [ftB_0, b1_t]
    refine (s15_2 ..).trans ?_
    simp (disch := omega) only [s15_0, s15_1, s15_3, s15_4, s15_7, s15_10, s15_11, s15_14, s15_17, s15_18, s15_21, s15_22, s15_23, s15_26, s15_27, s15_28, s15_31, s15_34, s15_35, z_lt_t, z_lt_f, z_le_t, z_le_f, z_lt0, z_ge0, z_cl, z_in, z_add, z_eq_f, z_ne0, z_00, z_10, z_01, z_11, z_neg1, z_nI_NONE, z_div, z_rem, z_rem2, sw_pu_s, sw_pu_n, true_and, and_true, true_or, or_true, if_true, if_false, not_true_eq_false, not_false_eq_true, h2]
  | succ m ih =>
    intro j F M T hj hV hW hF hFF h4 h2 hh
    obtain ⟨M1, a1, a2, a3⟩ := k72 (d := d) hV hW hF (by omega)
    have hg := gsT_le hW
    have g2 : M1 82 2 = nI n := by rw [a2 82 (by omega)]; exact h2
    have gh : ∀ j, j < n → M1 90 j = h j := fun i hi => by rw [a2 90 (by omega)]; exact hh i hi
    have gj := gh j (by omega)
    by_cases e : nI (gsT T) = h j
    · obtain ⟨M2, b1, b2⟩ := ih (j + 1) (F + 36) M1 (psT T) (by omega) a1 (WF_ps hW (by omega)) (FB_ps hW hF) (by omega) (by rw [psT_4]; omega) g2 gh
      refine ⟨M2, a2.tr b1, fun Q => ?_⟩
      rw [ftB_t e, ← b2 Q]
      refine (s15_2 ..).trans ?_
      simp (disch := omega) only [s15_0, s15_1, s15_3, s15_4, s15_7, s15_10, s15_11, s15_14, s15_17, s15_18, s15_21, s15_22, s15_23, s15_26, s15_27, s15_28, s15_31, s15_34, s15_35, z_lt_t, z_lt_f, z_le_t, z_le_f, z_lt0, z_ge0, z_cl, z_in, z_add, z_eq_f, z_ne0, z_00, z_10, z_01, z_11, z_neg1, z_nI_NONE, z_div, z_rem, z_rem2, sw_pu_s, sw_pu_n, true_and, and_true, true_or, or_true, if_true, if_false, not_true_eq_false, not_false_eq_true, h2, a3, gj, e]
    · refine ⟨M1, a2, fun Q => ?_⟩
      rw [ftB_f e, b1_f]
      refine (s15_2 ..).trans ?_
      simp (disch := omega) only [s15_0, s15_1, s15_3, s15_4, s15_7, s15_10, s15_11, s15_14, s15_17, s15_18, s15_21, s15_22, s15_23, s15_26, s15_27, s15_28, s15_31, s15_34, s15_35, z_lt_t, z_lt_f, z_le_t, z_le_f, z_lt0, z_ge0, z_cl, z_in, z_add, z_eq_f, z_ne0, z_00, z_10, z_01, z_11, z_neg1, z_nI_NONE, z_div, z_rem, z_rem2, sw_pu_s, sw_pu_n, true_and, and_true, true_or, or_true, if_true, if_false, not_true_eq_false, not_false_eq_true, h2, a3, gj, e]
theorem k15 (hn : n ≤ 16) {F : Nat} (hV : IsV M 83 T) (hW : WF T) (hF : FB T F) (hFF : F + 600 ≤ 1000000) (h4 : T 4 ≤ 1900) (h2 : M 82 2 = nI n) (hh : ∀ j, j < n → M 90 j = h j) : ∃ M', Off M M' 83 ∧ ∀ Q, sw_Cal (d + 5) 15 [.ref 82] M Q = Q (some (.int (b1 (ftB gsT h n 0 T)))) M' := by
  obtain ⟨M', a1, a2⟩ := k15L (d := d) hn n 0 F M T (by omega) hV hW hF (by omega) (by omega) h2 hh
  refine ⟨M', a1, fun Q => ?_⟩
  have := a2 Q
  rw [c15]
  simp (disch := omega) only [s15_0, s15_1, s15_3, s15_4, s15_7, s15_10, s15_11, s15_14, s15_17, s15_18, s15_21, s15_22, s15_23, s15_26, s15_27, s15_28, s15_31, s15_34, s15_35, z_lt_t, z_lt_f, z_le_t, z_le_f, z_lt0, z_ge0, z_cl, z_in, z_add, z_eq_f, z_ne0, z_00, z_10, z_01, z_11, z_neg1, z_nI_NONE, z_div, z_rem, z_rem2, sw_pu_s, sw_pu_n, true_and, and_true, true_or, or_true, if_true, if_false, not_true_eq_false, not_false_eq_true, this]
theorem IsV_no {v : Nat} (hV : IsV M v T) (w0 : T 0 ≤ 4) (w1 : T 1 ≤ 4) (b : Nat) : IsV (sw_set M (v + 5) (fun j => if j < 4 then -1000000 else M (v + 5) j)) v (al T 4 b) := by
  obtain ⟨hv, ⟨g0, g1, g2, g3, g4⟩, hR, hB⟩ := hV
  refine ⟨hv, ?_, fun q hq => ?_, fun c hc => ?_⟩
  · simp (disch := omega) only [z_set_n, al_o, g0, g1, g2, g3, g4, and_self]
  · rw [al_o _ (by omega)] at hq
    obtain ⟨r1, r2, r3, r4, r5⟩ := hR q hq
    simp (disch := omega) only [z_set_n, z_set_s, al_o, al_q, r1, r2, r3, r4, bn_4, if_pos, and_self]
  · rw [al_o _ (by omega)] at hc
    obtain ⟨b1, b2, b3, b6⟩ := hB c hc
    simp (disch := omega) only [z_set_n, al_o, b1, b2, b3, b6, and_self]
theorem al_al {r b c : Nat} (hr : r < 4) : upT (al T 4 c) (37 + r) b = al T r b := by
  funext i
  by_cases e : i = 37 + r
  · subst e
    rw [upT_s, al_r T hr]
  · rw [upT_n _ _ e]
    by_cases h : 37 ≤ i ∧ i < 41
    · obtain ⟨q, rfl⟩ : ∃ q, i = 37 + q := ⟨i - 37, by omega⟩
      rw [al_q _ (by omega) (by omega), al_q _ (by omega) (by omega)]
    · rw [al_o _ (by omega), al_o _ (by omega)]
theorem k19 (hV : IsV M 34 T) (hW : WF T) {r b : Nat} (hr : r < T 1) (hb : b < 4) : ∃ M', IsV M' 83 (al T r b) ∧ Off M M' 83 ∧ ∀ Q, sw_Cal (d + 3) 19 [.ref 82, .ref 34, .int (nI r), .int (nI b)] M Q = Q none M' := by
  have w0 := hW.1
  have w1 := hW.2.1
  have h59 := fun d Q => k59 (d := d) (M := M) (Q := Q) kd_v.1 kd34
  have h67 := fun d M Q => k67 (d := d) (M := M) (Q := Q) kd_v.1
  have hB := bcM_V (M := M) (v := 83) hV kd_v.1 w0 w1 (by omega)
  have hN := IsV_no hB w0 w1 b
  have hL := IsV_lie hN (by rw [al_o _ (by omega)]; exact w0) (by rw [al_o _ (by omega)]; exact w1) (r := r) (by rw [al_o _ (by omega)]; exact hr) b
  rw [al_al (by omega), bn_n (by omega)] at hL
  refine ⟨_, hL, ((bcM_off M 83 34).set (by omega)).up (by omega), fun Q => ?_⟩
  rw [c19]
  simp (disch := omega) only [s19_0, s19_1, s19_4, s19_5, s19_8, s19_9, s19_12, s19_15, s19_16, s19_19, s19_22, s19_23, s19_24, s19_25, z_lt_t, z_lt_f, z_le_t, z_le_f, z_lt0, z_ge0, z_cl, z_in, z_add, z_eq_f, z_ne0, z_00, z_10, z_01, z_11, z_neg1, z_nI_NONE, z_div, z_rem, z_rem2, sw_pu_s, sw_pu_n, true_and, and_true, true_or, or_true, if_true, if_false, not_true_eq_false, not_false_eq_true, h59, h67, kd_v.1, sw_vk5 kd_v.1, sw_vn5 kd_v.1]
/-- what stays while the towns are tried -/
def hC (n : Nat) (h : Nat → Int32) (T : Tw) (M : sw_Mem) : Prop := IsV M 34 T ∧ M 82 2 = nI n ∧ ∀ j, j < n → M 90 j = h j
theorem hC.off {M' : sw_Mem} (H : hC n h T M) (e : Off M M' 83) : hC n h T M' := ⟨IsV_c H.1 (fun k _ _ => e k (by omega)), by rw [e 82 (by omega)]; exact H.2.1, fun j hj => by rw [e 90 (by omega)]; exact H.2.2 j hj⟩
theorem k16L (hn : n ≤ 16) (hT : OKT T) {b : Nat} (hb : b < T 0) : ∀ m r a (M : sw_Mem), r + m = T 1 → hC n h T M →
    ∃ M', sC M M' ∧ ∀ Q, sw_WP (d + 5) 16 5 [.ref 82, .ref 34, .int (nI b), .int a, .int (nI r)] [] M Q = Q (some (.int (if ftB gsT h n 0 (al T 4 b) = true then orb (fun r => ftB gsT h n 0 (al T r b)) m r a ||| nI 16 else orb (fun r => ftB gsT h n 0 (al T r b)) m r a))) M' := by
  have hW := hT.1
  have w0 := hW.1
  have w1 := hW.2.1
  have h9 := hT.2.2.1
  intro m
  induction m with
  | zero =>
    intro r a M hr hh
    obtain rfl : r = T 1 := by omega
    have g4 := hh.1.2.1.2.2.2.2
    have h59 := fun d Q => k59 (d := d) (M := M) (Q := Q) kd_v.1 kd34
    have h67 := fun d M Q => k67 (d := d) (M := M) (Q := Q) kd_v.1
    have hB := bcM_V (M := M) (v := 83) hh.1 kd_v.1 w0 w1 (by omega)
    have hN := IsV_no hB w0 w1 b
    have hO : Off M _ 83 := (bcM_off M 83 34).set (a := 88) (f := (fun j => if j < 4 then -1000000 else bcM M 83 34 88 j)) (by omega)
    have hH := hh.off hO
    obtain ⟨M1, a1, a2⟩ := k15 (d := d) hn hN (WF_al hW (Or.inr hb)) (F := 144 * T 4) (fun c hc => by rw [al_o _ (by omega)] at hc ⊢; exact hT.2.1 c hc) (by omega) (by rw [al_o _ (by omega)]; omega) hH.2.1 hH.2.2
    refine ⟨M1, (sC.off hO (by omega)).tr (sC.off a1 (by omega)), fun Q => ?_⟩
    rw [orb_0]
    refine (s16_5 ..).trans ?_
    cases e : ftB gsT h n 0 (al T 4 b) <;> rw [e] at a2
    · rw [b1_f] at a2
      simp (disch := omega) only [s16_0, s16_1, s16_2, s16_3, s16_7, s16_8, s16_11, s16_14, s16_15, s16_16, s16_18, s16_19, s16_22, s16_23, s16_24, s16_27, s16_30, s16_31, s16_33, s16_34, s16_37, s16_38, s16_39, s16_40, s16_43, s16_46, s16_47, s16_50, s16_51, s16_54, s16_55, s16_58, s16_61, s16_62, s16_65, s16_68, s16_69, s16_71, s16_72, s16_75, s16_76, z_lt_t, z_lt_f, z_le_t, z_le_f, z_lt0, z_ge0, z_cl, z_in, z_add, z_eq_f, z_ne0, z_00, z_10, z_01, z_11, z_neg1, z_nI_NONE, z_div, z_rem, z_rem2, sw_pu_s, sw_pu_n, true_and, and_true, true_or, or_true, if_true, if_false, not_true_eq_false, not_false_eq_true, g4, h59, h67, kd_v.1, a2, Bool.false_eq_true]
    · rw [b1_t] at a2
      simp (disch := omega) only [s16_0, s16_1, s16_2, s16_3, s16_7, s16_8, s16_11, s16_14, s16_15, s16_16, s16_18, s16_19, s16_22, s16_23, s16_24, s16_27, s16_30, s16_31, s16_33, s16_34, s16_37, s16_38, s16_39, s16_40, s16_43, s16_46, s16_47, s16_50, s16_51, s16_54, s16_55, s16_58, s16_61, s16_62, s16_65, s16_68, s16_69, s16_71, s16_72, s16_75, s16_76, z_lt_t, z_lt_f, z_le_t, z_le_f, z_lt0, z_ge0, z_cl, z_in, z_add, z_eq_f, z_ne0, z_00, z_10, z_01, z_11, z_neg1, z_nI_NONE, z_div, z_rem, z_rem2, sw_pu_s, sw_pu_n, true_and, and_true, true_or, or_true, if_true, if_false, not_true_eq_false, not_false_eq_true, g4, h59, h67, kd_v.1, a2]
  | succ m ih =>
    intro r a M hr hh
    have g4 := hh.1.2.1.2.2.2.2
    obtain ⟨M1, a1, a2, a3⟩ := k19 (d := d + 2) hh.1 hW (show r < T 1 by omega) (show b < 4 by omega)
    have hH := hh.off a2
    obtain ⟨M2, b1, b2⟩ := k15 (d := d) hn a1 (WF_al hW (Or.inr hb)) (F := 144 * T 4) (fun c hc => by rw [al_o _ (by omega)] at hc ⊢; exact hT.2.1 c hc) (by omega) (by rw [al_o _ (by omega)]; omega) hH.2.1 hH.2.2
    obtain ⟨M3, c1, c2⟩ := ih (r + 1) (a ||| (if ftB gsT h n 0 (al T r b) = true then nI 1 <<< (nI r &&& 31) else nI 0)) M2 (by omega) (hH.off b1)
    refine ⟨M3, (sC.off (a2.tr b1) (by omega)).tr c1, fun Q => ?_⟩
    rw [orb_s, ← c2 Q]
    refine (s16_5 ..).trans ?_
    cases e : ftB gsT h n 0 (al T r b) <;> rw [e] at b2
    · rw [b1_f] at b2
      simp (disch := omega) only [s16_0, s16_1, s16_2, s16_3, s16_7, s16_8, s16_11, s16_14, s16_15, s16_16, s16_18, s16_19, s16_22, s16_23, s16_24, s16_27, s16_30, s16_31, s16_33, s16_34, s16_37, s16_38, s16_39, s16_40, s16_43, s16_46, s16_47, s16_50, s16_51, s16_54, s16_55, s16_58, s16_61, s16_62, s16_65, s16_68, s16_69, s16_71, s16_72, s16_75, s16_76, z_lt_t, z_lt_f, z_le_t, z_le_f, z_lt0, z_ge0, z_cl, z_in, z_add, z_eq_f, z_ne0, z_00, z_10, z_01, z_11, z_neg1, z_nI_NONE, z_div, z_rem, z_rem2, sw_pu_s, sw_pu_n, true_and, and_true, true_or, or_true, if_true, if_false, not_true_eq_false, not_false_eq_true, g4, a3, b2, Bool.false_eq_true]
    · rw [b1_t] at b2
      simp (disch := omega) only [s16_0, s16_1, s16_2, s16_3, s16_7, s16_8, s16_11, s16_14, s16_15, s16_16, s16_18, s16_19, s16_22, s16_23, s16_24, s16_27, s16_30, s16_31, s16_33, s16_34, s16_37, s16_38, s16_39, s16_40, s16_43, s16_46, s16_47, s16_50, s16_51, s16_54, s16_55, s16_58, s16_61, s16_62, s16_65, s16_68, s16_69, s16_71, s16_72, s16_75, s16_76, z_lt_t, z_lt_f, z_le_t, z_le_f, z_lt0, z_ge0, z_cl, z_in, z_add, z_eq_f, z_ne0, z_00, z_10, z_01, z_11, z_neg1, z_nI_NONE, z_div, z_rem, z_rem2, sw_pu_s, sw_pu_n, true_and, and_true, true_or, or_true, if_true, if_false, not_true_eq_false, not_false_eq_true, g4, a3, b2]
end FIT
