section FIV
variable {d n : Nat} {T : Tw} {ρ : Rw} {h : Nat → Int32} {M N : sw_Mem} {Q : Option Value → sw_Mem → Prop}
theorem dfl_le (hW : WF T) {b : Nat} (hb : b < T 0) : dfl b T ≤ 36 := by
  unfold dfl
  have key : ∀ n, n ≤ T 1 → (if wh T b n < 4 then grT T (wh T b n) b else 0) ≤ 36 := by
    intro n
    induction n with
    | zero => intro _; exact Nat.zero_le _
    | succ n ih =>
      intro hn
      rw [wh_s]
      by_cases e : T (37 + n) = b
      · rw [if_pos e]
        split
        · exact grT_le hW (by omega) hb
        · omega
      · rw [if_neg e]
        exact ih (by omega)
  exact key _ (Nat.le_refl _)
theorem k196L (hn : n ≤ 16) {r i b : Nat} (hr : r < 8) (hi : i + n ≤ 40) : ∀ m j F (x6 : Value) (N : sw_Mem) (T : Tw), j + m = n → IsM N 1107 T → WF T → 0 < T 2 → b < T 0 → FB T F → F + 36 * m ≤ 1000000 → T 4 + m ≤ 2000 → (∀ j, j < n → N 5 (40 * r + i + j) = h j) → (x6 = sw_U ∨ ∃ x : Int32, x6 = .int x) →
    ∃ N', OfM N N' 1107 ∧ ∀ Q, sw_WP (d + 3) 196 3 [.ref 0, .int (nI b), .int (nI r), .int (nI i), .int (nI n), .int (nI j), x6] [] N Q = Q (some (.int (b1 (ftB (dfl b) h m j T)))) N' := by
  intro m
  induction m with
  | zero =>
    intro j F x6 N T hj hV hW hL hb hF hFF h4 hh hx
    obtain rfl : j = n := by omega
    refine ⟨N, OfM.rf, fun Q => ?_⟩
    rw [ftB_0, b1_t]
    simp (disch := omega) only [s196_3, s196_5, s196_7, s196_10, s196_11, s196_14, s196_17, s196_18, s196_19, s196_20, s196_22, s196_23, s196_26, s196_29, s196_30, s196_31, s196_34, s196_37, s196_38, s196_39, s196_40, s196_42, s196_43, s196_44, s196_47, s196_49, s196_50, s196_51, s196_52, s196_53, s196_55, s196_56, s196_57, s196_60, s196_61, s196_62, s196_65, s196_68, s196_69, z_lt_t, z_lt_f, z_le_t, z_le_f, z_lt0, z_ge0, z_cl, z_in, z_add, z_eq_f, z_ne0, z_00, z_10, z_01, z_11, z_neg1, z_nI_NONE, z_div, z_rem, z_rem2, sw_pu_s, sw_pu_n, true_and, and_true, true_or, or_true, if_true, if_false, not_true_eq_false, not_false_eq_true]
  | succ m ih =>
    intro j F x6 N T hj hV hW hL hb hF hFF h4 hh hx
    have w0 := hW.1
    obtain ⟨N1, a1, a2, a3⟩ := k165 (d := d) hV hW hL hF (by omega) (by omega)
    have f1 := hV (17 + b) (by omega)
    have f2 := a1 (17 + b) (by omega)
    rw [psT_fl _ (by omega)] at f2
    rw [show 1107 + (17 + b) = 1124 + b by omega] at f1 f2
    have hb1 := hF b hb
    have hd := dfl_le hW hb
    have f2 : N1 1 (1124 + b) = nI (T (17 + b) + dfl b T) := f2
    have gh : ∀ j, j < n → N1 5 (40 * r + i + j) = h j := fun q hq => by rw [a2.1 5 (by omega)]; exact hh q hq
    have gj := gh j (by omega)
    have o0 : ∀ i, (i = 0 ∨ i = 2) → psT T i = T i := fun i hi => psT_o T (by omega) (by omega) (by omega) (by omega)
    have es : nI (T (17 + b) + dfl b T) - nI (T (17 + b)) = nI (dfl b T) := by rw [z_sub (by omega), Nat.add_sub_cancel_left]
    by_cases e : nI (dfl b T) = h j
    · obtain ⟨N2, b1, b2⟩ := ih (j + 1) (F + 36) (.int (nI (T (17 + b)))) N1 (psT T) (by omega) a1 (WF_ps hW (by omega)) (by rw [o0 _ (by omega)]; exact hL) (by rw [o0 _ (by omega)]; exact hb) (FB_ps hW hF) (by omega) (by rw [psT_4]; omega) gh (Or.inr ⟨_, rfl⟩)
      refine ⟨N2, a2.tr b1, fun Q => ?_⟩
      rw [ftB_t e, ← b2 Q]
      refine (s196_3 ..).trans ?_
      simp (disch := omega) only [s196_0, s196_1, s196_5, s196_7, s196_10, s196_11, s196_14, s196_17, s196_18, s196_19, s196_20, s196_22, s196_23, s196_26, s196_29, s196_30, s196_31, s196_34, s196_37, s196_38, s196_39, s196_40, s196_42, s196_43, s196_44, s196_47, s196_49, s196_50, s196_51, s196_52, s196_53, s196_55, s196_56, s196_57, s196_60, s196_61, s196_62, s196_65, s196_68, s196_69, z_lt_t, z_lt_f, z_le_t, z_le_f, z_lt0, z_ge0, z_cl, z_in, z_add, z_eq_f, z_ne0, z_00, z_10, z_01, z_11, z_neg1, z_nI_NONE, z_div, z_rem, z_rem2, sw_pu_s, sw_pu_n, true_and, and_true, true_or, or_true, if_true, if_false, not_true_eq_false, not_false_eq_true, z_mul, f1, a3, f2, es, gj, e]
    · refine ⟨N1, a2, fun Q => ?_⟩
      rw [ftB_f e, b1_f]
      refine (s196_3 ..).trans ?_
      simp (disch := omega) only [s196_0, s196_1, s196_5, s196_7, s196_10, s196_11, s196_14, s196_17, s196_18, s196_19, s196_20, s196_22, s196_23, s196_26, s196_29, s196_30, s196_31, s196_34, s196_37, s196_38, s196_39, s196_40, s196_42, s196_43, s196_44, s196_47, s196_49, s196_50, s196_51, s196_52, s196_53, s196_55, s196_56, s196_57, s196_60, s196_61, s196_62, s196_65, s196_68, s196_69, z_lt_t, z_lt_f, z_le_t, z_le_f, z_lt0, z_ge0, z_cl, z_in, z_add, z_eq_f, z_ne0, z_00, z_10, z_01, z_11, z_neg1, z_nI_NONE, z_div, z_rem, z_rem2, sw_pu_s, sw_pu_n, true_and, and_true, true_or, or_true, if_true, if_false, not_true_eq_false, not_false_eq_true, z_mul, f1, a3, f2, es, gj, e]
theorem k196 (hn : n ≤ 16) {r i b F : Nat} (hr : r < 8) (hi : i + n ≤ 40) (hV : IsM N 1107 T) (hW : WF T) (hL : 0 < T 2) (hb : b < T 0) (hF : FB T F) (hFF : F + 600 ≤ 1000000) (h4 : T 4 ≤ 1900) (hh : ∀ j, j < n → N 5 (40 * r + i + j) = h j) : ∃ N', OfM N N' 1107 ∧ ∀ Q, sw_Cal (d + 4) 196 [.ref 0, .int (nI b), .int (nI r), .int (nI i), .int (nI n)] N Q = Q (some (.int (b1 (ftB (dfl b) h n 0 T)))) N' := by
  obtain ⟨N', a1, a2⟩ := k196L (d := d) hn hr hi n 0 F sw_U N T (by omega) hV hW hL hb hF (by omega) (by omega) hh (Or.inl rfl)
  refine ⟨N', a1, fun Q => ?_⟩
  have := a2 Q
  rw [c196]
  simp (disch := omega) only [s196_0, s196_1, z_lt_t, z_lt_f, z_le_t, z_le_f, z_lt0, z_ge0, z_cl, z_in, z_add, z_eq_f, z_ne0, z_00, z_10, z_01, z_11, z_neg1, z_nI_NONE, z_div, z_rem, z_rem2, sw_pu_s, sw_pu_n, true_and, and_true, true_or, or_true, if_true, if_false, not_true_eq_false, not_false_eq_true]
  exact this
def alk (T : Tw) (r b k : Nat) : Tw := fun i => if 37 ≤ i ∧ i < 37 + k then (if i = 37 + r then b else 4) else T i
theorem alk_s (T : Tw) (r b k : Nat) : upT (alk T r b k) (37 + k) (if k = r then b else 4) = alk T r b (k + 1) := by
  funext i
  by_cases e : i = 37 + k
  · subst e
    have e1 : alk T r b (k + 1) (37 + k) = if 37 + k = 37 + r then b else 4 := if_pos (by omega)
    rw [upT_s, e1]
    by_cases c : k = r
    · rw [if_pos c, if_pos (show 37 + k = 37 + r by omega)]
    · rw [if_neg c, if_neg (show ¬ 37 + k = 37 + r by omega)]
  · rw [upT_n _ _ e]
    by_cases c : 37 ≤ i ∧ i < 37 + k
    · have e1 : alk T r b (k + 1) i = if i = 37 + r then b else 4 := if_pos (by omega)
      have e2 : alk T r b k i = if i = 37 + r then b else 4 := if_pos c
      rw [e1, e2]
    · have e1 : alk T r b (k + 1) i = T i := if_neg (by omega)
      have e2 : alk T r b k i = T i := if_neg c
      rw [e1, e2]
theorem alk_0 (T : Tw) (r b : Nat) : alk T r b 0 = T := by
  funext i
  unfold alk
  rw [if_neg (by omega)]
theorem k197L {r b : Nat} (hr : r < 5) (hb : b < 4) : ∀ m k (N : sw_Mem), k + m = 4 → IsM N 1107 (alk T r b k) →
    ∃ N', IsM N' 1107 (al T r b) ∧ OfM N N' 1107 ∧ ∀ Q, sw_WP (d + 2) 197 6 [.ref 0, .int (nI r), .int (nI b), .int (nI k)] [] N Q = Q none N' := by
  intro m
  induction m with
  | zero =>
    intro k N hk hV
    obtain rfl : k = 4 := by omega
    refine ⟨N, hV, OfM.rf, fun Q => ?_⟩
    refine (s197_6 ..).trans ?_
    simp (disch := omega) only [s197_0, s197_1, s197_4, s197_5, s197_7, s197_8, s197_11, s197_12, s197_15, s197_18, s197_19, s197_20, s197_21, s197_22, s197_25, s197_26, s197_29, s197_30, s197_31, s197_34, s197_37, z_lt_t, z_lt_f, z_le_t, z_le_f, z_lt0, z_ge0, z_cl, z_in, z_add, z_eq_f, z_ne0, z_00, z_10, z_01, z_11, z_neg1, z_nI_NONE, z_div, z_rem, z_rem2, sw_pu_s, sw_pu_n, true_and, and_true, true_or, or_true, if_true, if_false, not_true_eq_false, not_false_eq_true]
  | succ m ih =>
    intro k N hk hV
    have hU := hV.up (37 + k) (if k = r then b else 4)
    rw [alk_s, show 1107 + (37 + k) = 1144 + k by omega] at hU
    obtain ⟨N', a1, a2, a3⟩ := ih (k + 1) _ (by omega) hU
    have eO : OfM N (sw_up N 1 (1107 + (37 + k)) (nI (if k = r then b else 4))) 1107 := OfM.rf.up (by omega)
    rw [show 1107 + (37 + k) = 1144 + k by omega] at eO
    refine ⟨N', a1, eO.tr a2, fun Q => ?_⟩
    rw [← a3 Q]
    refine (s197_6 ..).trans ?_
    by_cases c : k = r
    · rw [if_pos c]
      simp (disch := omega) only [s197_0, s197_1, s197_4, s197_5, s197_7, s197_8, s197_11, s197_12, s197_15, s197_18, s197_19, s197_20, s197_21, s197_22, s197_25, s197_26, s197_29, s197_30, s197_31, s197_34, s197_37, z_lt_t, z_lt_f, z_le_t, z_le_f, z_lt0, z_ge0, z_cl, z_in, z_add, z_eq_f, z_ne0, z_00, z_10, z_01, z_11, z_neg1, z_nI_NONE, z_div, z_rem, z_rem2, sw_pu_s, sw_pu_n, true_and, and_true, true_or, or_true, if_true, if_false, not_true_eq_false, not_false_eq_true, c]
    · rw [if_neg c]
      simp (disch := omega) only [s197_0, s197_1, s197_4, s197_5, s197_7, s197_8, s197_11, s197_12, s197_15, s197_18, s197_19, s197_20, s197_21, s197_22, s197_25, s197_26, s197_29, s197_30, s197_31, s197_34, s197_37, z_lt_t, z_lt_f, z_le_t, z_le_f, z_lt0, z_ge0, z_cl, z_in, z_add, z_eq_f, z_ne0, z_00, z_10, z_01, z_11, z_neg1, z_nI_NONE, z_div, z_rem, z_rem2, sw_pu_s, sw_pu_n, true_and, and_true, true_or, or_true, if_true, if_false, not_true_eq_false, not_false_eq_true, c]
theorem k197 {r b : Nat} (hM : IsM N 0 T) (hr : r < 5) (hb : b < 4) : ∃ N', IsM N' 1107 (al T r b) ∧ OfM N N' 1107 ∧ ∀ Q, sw_Cal (d + 3) 197 [.ref 0, .int (nI r), .int (nI b)] N Q = Q none N' := by
  have h1 := cpT_IsM (b := 1107) hM
  rw [← alk_0 T r b] at h1
  obtain ⟨N', a1, a2, a3⟩ := k197L (d := d) hr hb 4 0 _ (by omega) h1
  refine ⟨N', a1, cpT_OfM.tr a2, fun Q => ?_⟩
  rw [← a3 Q, c197]
  simp (disch := omega) only [s197_0, s197_1, s197_4, s197_5, z_lt_t, z_lt_f, z_le_t, z_le_f, z_lt0, z_ge0, z_cl, z_in, z_add, z_eq_f, z_ne0, z_00, z_10, z_01, z_11, z_neg1, z_nI_NONE, z_div, z_rem, z_rem2, sw_pu_s, sw_pu_n, true_and, and_true, true_or, or_true, if_true, if_false, not_true_eq_false, not_false_eq_true, k177]
/-- what stays in the model -/
def hM (n : Nat) (h : Nat → Int32) (r i : Nat) (T : Tw) (N : sw_Mem) : Prop := IsM N 0 T ∧ ∀ j, j < n → N 5 (40 * r + i + j) = h j
theorem hM.off {N' : sw_Mem} {r i : Nat} (H : hM n h r i T N) (e : OfM N N' 1107) : hM n h r i T N' := ⟨IsM_c H.1 (fun j _ _ => e.2 j (by omega)), fun j hj => by rw [e.1 5 (by omega)]; exact H.2 j hj⟩
def fP (n : Nat) (h : Nat → Int32) (b : Nat) (T : Tw) (k : Nat) : Bool := (decide (k = 4) || decide (k < T 1)) && ftB (dfl b) h n 0 (al T k b)
theorem k198L (hn : n ≤ 16) (hT : OKT T) (hL : 0 < T 2) {r i b : Nat} (hr : r < 8) (hi : i + n ≤ 40) (hb : b < T 0) : ∀ m k a (x7 : Value) (N : sw_Mem), k + m = 5 → hM n h r i T N → (x7 = sw_U ∨ ∃ x : Int32, x7 = .int x) →
    ∃ N', sM N N' ∧ ∀ Q, sw_WP (d + 4) 198 6 [.ref 0, .int (nI b), .int (nI r), .int (nI i), .int (nI n), .int a, .int (nI k), x7] [] N Q = Q (some (.int (orb (fP n h b T) m k a))) N' := by
  have hW := hT.1
  have w0 := hW.1
  have w1 := hW.2.1
  have h9 := hT.2.2.1
  intro m
  induction m with
  | zero =>
    intro k a x7 N hk hh hx
    obtain rfl : k = 5 := by omega
    refine ⟨N, sM.rf, fun Q => ?_⟩
    rw [orb_0]
    refine (s198_6 ..).trans ?_
    simp (disch := omega) only [s198_0, s198_1, s198_3, s198_4, s198_8, s198_9, s198_12, s198_13, s198_15, s198_16, s198_19, s198_21, s198_22, s198_25, s198_26, s198_28, s198_31, s198_34, s198_35, s198_36, s198_37, s198_38, s198_40, s198_43, s198_46, s198_47, s198_50, s198_51, s198_53, s198_55, s198_57, s198_60, s198_61, s198_63, s198_64, s198_67, s198_68, s198_69, s198_71, s198_74, s198_77, s198_79, z_lt_t, z_lt_f, z_le_t, z_le_f, z_lt0, z_ge0, z_cl, z_in, z_add, z_eq_f, z_ne0, z_00, z_10, z_01, z_11, z_neg1, z_nI_NONE, z_div, z_rem, z_rem2, sw_pu_s, sw_pu_n, true_and, and_true, true_or, or_true, if_true, if_false, not_true_eq_false, not_false_eq_true]
  | succ m ih =>
    intro k a x7 N hk hh hx
    obtain ⟨N1, a1, a2, a3⟩ := k197 (d := d + 1) hh.1 (show k < 5 by omega) (show b < 4 by omega)
    have hH := hh.off a2
    have h160 := fun d Q => k160 (d := d) (Q := Q) hH.1 hW (nI k)
    by_cases c : k = 4 ∨ k < T 1
    · obtain ⟨N2, b1', b2⟩ := k196 (d := d) (b := b) (F := 144 * T 4) hn hr hi a1 (WF_al hW (Or.inr hb)) (by rw [al_o _ (by omega)]; exact hL) (by rw [al_o _ (by omega)]; exact hb) (fun c hc => by rw [al_o _ (by omega)] at hc ⊢; exact hT.2.1 c hc) (by omega) (by rw [al_o _ (by omega)]; omega) hH.2
      have eP : fP n h b T k = ftB (dfl b) h n 0 (al T k b) := by
        unfold fP
        rcases c with c | c
        · rw [decide_eq_true c, Bool.true_or, Bool.true_and]
        · rw [decide_eq_true c, Bool.or_true, Bool.true_and]
      obtain ⟨N3, c1, c2⟩ := ih (k + 1) (a ||| (if fP n h b T k = true then nI 1 <<< (nI k &&& 31) else nI 0)) (.int (b1 (ftB (dfl b) h n 0 (al T k b)))) N2 (by omega) (hH.off b1') (Or.inr ⟨_, rfl⟩)
      refine ⟨N3, (sM.ofm (a2.tr b1')).tr c1, fun Q => ?_⟩
      rw [orb_s, ← c2 Q, eP]
      refine (s198_6 ..).trans ?_
      by_cases c4 : k = 4
      · have c4 : (nI k = nI 4) = True := by rw [c4]; exact eq_self _
        cases e : ftB (dfl b) h n 0 (al T k b) <;> rw [e] at b2
        · rw [b1_f] at b2 ⊢
          simp (disch := omega) only [s198_0, s198_1, s198_3, s198_4, s198_8, s198_9, s198_12, s198_13, s198_15, s198_16, s198_19, s198_21, s198_22, s198_25, s198_26, s198_28, s198_31, s198_34, s198_35, s198_36, s198_37, s198_38, s198_40, s198_43, s198_46, s198_47, s198_50, s198_51, s198_53, s198_55, s198_57, s198_60, s198_61, s198_63, s198_64, s198_67, s198_68, s198_69, s198_71, s198_74, s198_77, s198_79, z_lt_t, z_lt_f, z_le_t, z_le_f, z_lt0, z_ge0, z_cl, z_in, z_add, z_eq_f, z_ne0, z_00, z_10, z_01, z_11, z_neg1, z_nI_NONE, z_div, z_rem, z_rem2, sw_pu_s, sw_pu_n, true_and, and_true, true_or, or_true, if_true, if_false, not_true_eq_false, not_false_eq_true, a3, c4, b2, Bool.false_eq_true]
        · rw [b1_t] at b2 ⊢
          simp (disch := omega) only [s198_0, s198_1, s198_3, s198_4, s198_8, s198_9, s198_12, s198_13, s198_15, s198_16, s198_19, s198_21, s198_22, s198_25, s198_26, s198_28, s198_31, s198_34, s198_35, s198_36, s198_37, s198_38, s198_40, s198_43, s198_46, s198_47, s198_50, s198_51, s198_53, s198_55, s198_57, s198_60, s198_61, s198_63, s198_64, s198_67, s198_68, s198_69, s198_71, s198_74, s198_77, s198_79, z_lt_t, z_lt_f, z_le_t, z_le_f, z_lt0, z_ge0, z_cl, z_in, z_add, z_eq_f, z_ne0, z_00, z_10, z_01, z_11, z_neg1, z_nI_NONE, z_div, z_rem, z_rem2, sw_pu_s, sw_pu_n, true_and, and_true, true_or, or_true, if_true, if_false, not_true_eq_false, not_false_eq_true, a3, c4, b2]
      · have c5 : k < T 1 := by omega
        cases e : ftB (dfl b) h n 0 (al T k b) <;> rw [e] at b2
        · rw [b1_f] at b2 ⊢
          simp (disch := omega) only [s198_0, s198_1, s198_3, s198_4, s198_8, s198_9, s198_12, s198_13, s198_15, s198_16, s198_19, s198_21, s198_22, s198_25, s198_26, s198_28, s198_31, s198_34, s198_35, s198_36, s198_37, s198_38, s198_40, s198_43, s198_46, s198_47, s198_50, s198_51, s198_53, s198_55, s198_57, s198_60, s198_61, s198_63, s198_64, s198_67, s198_68, s198_69, s198_71, s198_74, s198_77, s198_79, z_lt_t, z_lt_f, z_le_t, z_le_f, z_lt0, z_ge0, z_cl, z_in, z_add, z_eq_f, z_ne0, z_00, z_10, z_01, z_11, z_neg1, z_nI_NONE, z_div, z_rem, z_rem2, sw_pu_s, sw_pu_n, true_and, and_true, true_or, or_true, if_true, if_false, not_true_eq_false, not_false_eq_true, a3, c4, h160, z_ibt, b2, Bool.false_eq_true]
        · rw [b1_t] at b2 ⊢
          simp (disch := omega) only [s198_0, s198_1, s198_3, s198_4, s198_8, s198_9, s198_12, s198_13, s198_15, s198_16, s198_19, s198_21, s198_22, s198_25, s198_26, s198_28, s198_31, s198_34, s198_35, s198_36, s198_37, s198_38, s198_40, s198_43, s198_46, s198_47, s198_50, s198_51, s198_53, s198_55, s198_57, s198_60, s198_61, s198_63, s198_64, s198_67, s198_68, s198_69, s198_71, s198_74, s198_77, s198_79, z_lt_t, z_lt_f, z_le_t, z_le_f, z_lt0, z_ge0, z_cl, z_in, z_add, z_eq_f, z_ne0, z_00, z_10, z_01, z_11, z_neg1, z_nI_NONE, z_div, z_rem, z_rem2, sw_pu_s, sw_pu_n, true_and, and_true, true_or, or_true, if_true, if_false, not_true_eq_false, not_false_eq_true, a3, c4, h160, z_ibt, b2]
    · have eP : fP n h b T k = false := by
        unfold fP
        rw [decide_eq_false (fun q => c (Or.inl q)), decide_eq_false (fun q => c (Or.inr q))]
        rfl
      obtain ⟨N3, c1, c2⟩ := ih (k + 1) (a ||| (if fP n h b T k = true then nI 1 <<< (nI k &&& 31) else nI 0)) (.int (nI 0)) N1 (by omega) hH (Or.inr ⟨_, rfl⟩)
      refine ⟨N3, (sM.ofm a2).tr c1, fun Q => ?_⟩
      rw [orb_s, ← c2 Q, eP]
      refine (s198_6 ..).trans ?_
      simp (disch := omega) only [s198_0, s198_1, s198_3, s198_4, s198_8, s198_9, s198_12, s198_13, s198_15, s198_16, s198_19, s198_21, s198_22, s198_25, s198_26, s198_28, s198_31, s198_34, s198_35, s198_36, s198_37, s198_38, s198_40, s198_43, s198_46, s198_47, s198_50, s198_51, s198_53, s198_55, s198_57, s198_60, s198_61, s198_63, s198_64, s198_67, s198_68, s198_69, s198_71, s198_74, s198_77, s198_79, z_lt_t, z_lt_f, z_le_t, z_le_f, z_lt0, z_ge0, z_cl, z_in, z_add, z_eq_f, z_ne0, z_00, z_10, z_01, z_11, z_neg1, z_nI_NONE, z_div, z_rem, z_rem2, sw_pu_s, sw_pu_n, true_and, and_true, true_or, or_true, if_true, if_false, not_true_eq_false, not_false_eq_true, a3, h160, z_ibf, Bool.false_eq_true]
end FIV
