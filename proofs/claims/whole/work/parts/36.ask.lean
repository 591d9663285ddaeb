section ASK
variable {d n dep k : Nat} {M : sw_Mem} {T : Tw} {Q : Option Value → sw_Mem → Prop} {rk fu nm : Int32}
def bd (k w : Nat) : Nat := if w = 0 then [10, 11, 12, 11, 13, 14].getD k 0 else [20, 21, 24, 22, 23, 23].getD k 0
def alB (k w : Nat) : Bool := w == 0 || w == k || (w == 1 && (k == 2 || k == 3)) || (w == 4 && k == 5)
theorem k28 {x : Nat} (hx : x < 2 ^ 30) : sw_Cal (d + 1) 28 [.int (nI x)] M Q = if x ≤ 5 then Q (some (.int (nI 1))) M else Q (some (.int (nI 0))) M := by
  rw [c28]
  by_cases h : x ≤ 5
  · simp (disch := omega) only [s28_0, s28_1, s28_4, s28_5, s28_6, s28_9, s28_10, s28_13, s28_14, z_lt_t, z_lt_f, z_le_t, z_le_f, z_lt0, z_ge0, z_cl, z_in, z_add, z_eq_f, z_ne0, z_00, z_10, z_01, z_11, z_neg1, z_nI_NONE, z_div, z_rem, z_rem2, sw_pu_s, sw_pu_n, true_and, and_true, true_or, or_true, if_true, if_false, not_true_eq_false, not_false_eq_true, ↓if_pos, ↓if_neg]
  · simp (disch := omega) only [s28_0, s28_1, s28_4, s28_5, s28_6, s28_9, s28_10, s28_13, s28_14, z_lt_t, z_lt_f, z_le_t, z_le_f, z_lt0, z_ge0, z_cl, z_in, z_add, z_eq_f, z_ne0, z_00, z_10, z_01, z_11, z_neg1, z_nI_NONE, z_div, z_rem, z_rem2, sw_pu_s, sw_pu_n, true_and, and_true, true_or, or_true, if_true, if_false, not_true_eq_false, not_false_eq_true, ↓if_pos, ↓if_neg]
theorem k28I (x : Int32) : sw_Cal (d + 1) 28 [.int x] M Q = if 0 ≤ x.toInt ∧ x.toInt ≤ 5 then Q (some (.int (nI 1))) M else Q (some (.int (nI 0))) M := by
  rw [c28]
  by_cases h : 0 ≤ x.toInt ∧ x.toInt ≤ 5
  · simp (disch := omega) only [s28_0, s28_1, s28_4, s28_5, s28_6, s28_9, s28_10, s28_13, s28_14, z_lt_t, z_lt_f, z_le_t, z_le_f, z_lt0, z_ge0, z_cl, z_in, z_add, z_eq_f, z_ne0, z_00, z_10, z_01, z_11, z_neg1, z_nI_NONE, z_div, z_rem, z_rem2, sw_pu_s, sw_pu_n, true_and, and_true, true_or, or_true, if_true, if_false, not_true_eq_false, not_false_eq_true, z_ltI, z_gtI, z_leI, z_geI, z_lt0I, z_ge0I, z_gt0I, z_le0I, z_ibI, Int32.toInt_zero, ↓if_pos, ↓if_neg]
  · by_cases h2 : x.toInt < 0
    · simp (disch := omega) only [s28_0, s28_1, s28_4, s28_5, s28_6, s28_9, s28_10, s28_13, s28_14, z_lt_t, z_lt_f, z_le_t, z_le_f, z_lt0, z_ge0, z_cl, z_in, z_add, z_eq_f, z_ne0, z_00, z_10, z_01, z_11, z_neg1, z_nI_NONE, z_div, z_rem, z_rem2, sw_pu_s, sw_pu_n, true_and, and_true, true_or, or_true, if_true, if_false, not_true_eq_false, not_false_eq_true, z_ltI, z_gtI, z_leI, z_geI, z_lt0I, z_ge0I, z_gt0I, z_le0I, z_ibI, Int32.toInt_zero, ↓if_pos, ↓if_neg]
    · simp (disch := omega) only [s28_0, s28_1, s28_4, s28_5, s28_6, s28_9, s28_10, s28_13, s28_14, z_lt_t, z_lt_f, z_le_t, z_le_f, z_lt0, z_ge0, z_cl, z_in, z_add, z_eq_f, z_ne0, z_00, z_10, z_01, z_11, z_neg1, z_nI_NONE, z_div, z_rem, z_rem2, sw_pu_s, sw_pu_n, true_and, and_true, true_or, or_true, if_true, if_false, not_true_eq_false, not_false_eq_true, z_ltI, z_gtI, z_leI, z_geI, z_lt0I, z_ge0I, z_gt0I, z_le0I, z_ibI, Int32.toInt_zero, ↓if_pos, ↓if_neg]
theorem k28m : sw_Cal (d + 1) 28 [.int (-1)] M Q = Q (some (.int (nI 0))) M := by
  rw [c28]
  simp (disch := omega) only [s28_0, s28_1, s28_4, s28_5, s28_6, s28_9, s28_10, s28_13, s28_14, z_lt_t, z_lt_f, z_le_t, z_le_f, z_lt0, z_ge0, z_cl, z_in, z_add, z_eq_f, z_ne0, z_00, z_10, z_01, z_11, z_neg1, z_nI_NONE, z_div, z_rem, z_rem2, sw_pu_s, sw_pu_n, true_and, and_true, true_or, or_true, if_true, if_false, not_true_eq_false, not_false_eq_true, show ((-1 : Int32) < 0) = True from eq_true (by decide)]
theorem kd_r : sw_kd 109 = 14 ∧ sw_kd 110 = 14 ∧ sw_kd 111 = 14 := by decide +kernel
theorem rl_r (M : sw_Mem) : sw_rl M 109 = 6 ∧ sw_rl M 110 = 6 ∧ sw_rl M 111 = 6 := ⟨rfl, rfl, rfl⟩
theorem k30 (hK : CKn M) {w : Nat} (h1 : 1 ≤ k) (h5 : k ≤ 5) (hw : w ≤ 5) : sw_Cal (d + 2) 30 [.int (nI k), .int (nI w)] M Q = if alB k w = true then Q (some (.int (nI 1))) M else Q (some (.int (nI 0))) M := by
  obtain ⟨⟨a0, a1, a2, a3, a4, a5⟩, -, -⟩ := hK
  have em : ∀ w : Nat, w ≤ 5 → ((-1 : Int32) = nI w) = False := fun w hw => by
    rcases (show w = 0 ∨ w = 1 ∨ w = 2 ∨ w = 3 ∨ w = 4 ∨ w = 5 by omega) with rfl | rfl | rfl | rfl | rfl | rfl <;> exact eq_false (by decide)
  rw [c30]
  rcases (show k = 1 ∨ k = 2 ∨ k = 3 ∨ k = 4 ∨ k = 5 by omega) with rfl | rfl | rfl | rfl | rfl <;>
    rcases (show w = 0 ∨ w = 1 ∨ w = 2 ∨ w = 3 ∨ w = 4 ∨ w = 5 by omega) with rfl | rfl | rfl | rfl | rfl | rfl <;>
    first
    | (rw [if_pos (by decide)]
       simp (disch := omega) only [s30_0, s30_1, s30_2, s30_3, s30_4, s30_5, s30_6, s30_9, s30_10, s30_13, s30_16, s30_17, s30_18, s30_21, s30_22, s30_23, s30_26, s30_27, s30_28, s30_29, s30_32, s30_35, s30_36, z_lt_t, z_lt_f, z_le_t, z_le_f, z_lt0, z_ge0, z_cl, z_in, z_add, z_eq_f, z_ne0, z_00, z_10, z_01, z_11, z_neg1, z_nI_NONE, z_div, z_rem, z_rem2, sw_pu_s, sw_pu_n, true_and, and_true, true_or, or_true, if_true, if_false, not_true_eq_false, not_false_eq_true, k28, k28m, kd_r.1, kd_r.2.1, kd_r.2.2, (rl_r M).1, (rl_r M).2.1, (rl_r M).2.2, a0, a1, a2, a3, a4, a5, ↓if_pos, ↓if_neg])
    | (rw [if_neg (by decide)]
       simp (disch := omega) only [s30_0, s30_1, s30_2, s30_3, s30_4, s30_5, s30_6, s30_9, s30_10, s30_13, s30_16, s30_17, s30_18, s30_21, s30_22, s30_23, s30_26, s30_27, s30_28, s30_29, s30_32, s30_35, s30_36, z_lt_t, z_lt_f, z_le_t, z_le_f, z_lt0, z_ge0, z_cl, z_in, z_add, z_eq_f, z_ne0, z_00, z_10, z_01, z_11, z_neg1, z_nI_NONE, z_div, z_rem, z_rem2, sw_pu_s, sw_pu_n, true_and, and_true, true_or, or_true, if_true, if_false, not_true_eq_false, not_false_eq_true, k28, k28m, kd_r.1, kd_r.2.1, kd_r.2.2, (rl_r M).1, (rl_r M).2.1, (rl_r M).2.2, a0, a1, a2, a3, a4, a5, ↓if_pos, ↓if_neg])
theorem k31 (hK : CKn M) {w : Nat} (h1 : 1 ≤ k) (h5 : k ≤ 5) (hw : w ≤ 1) : sw_Cal (d + 2) 31 [.int (nI k), .int (nI w)] M Q = Q (some (.int (nI (bd k w)))) M := by
  obtain ⟨⟨a0, a1, a2, a3, a4, a5⟩, ⟨b0, b1, b2, b3, b4, b5⟩, c0, c1, c2, c3, c4, c5⟩ := hK
  rw [c31]
  rcases (show k = 1 ∨ k = 2 ∨ k = 3 ∨ k = 4 ∨ k = 5 by omega) with rfl | rfl | rfl | rfl | rfl <;>
    rcases (show w = 0 ∨ w = 1 by omega) with rfl | rfl <;>
    simp (disch := omega) only [s31_0, s31_1, s31_2, s31_3, s31_4, s31_5, s31_6, s31_9, s31_10, s31_13, s31_16, s31_17, s31_20, s31_23, s31_24, s31_25, s31_28, s31_31, s31_32, s31_33, s31_35, s31_37, s31_40, s31_42, s31_43, s31_46, s31_47, s31_48, s31_49, s31_52, s31_55, s31_56, z_lt_t, z_lt_f, z_le_t, z_le_f, z_lt0, z_ge0, z_cl, z_in, z_add, z_eq_f, z_ne0, z_00, z_10, z_01, z_11, z_neg1, z_nI_NONE, z_div, z_rem, z_rem2, sw_pu_s, sw_pu_n, true_and, and_true, true_or, or_true, if_true, if_false, not_true_eq_false, not_false_eq_true, k28, kd_r.1, kd_r.2.1, kd_r.2.2, (rl_r M).1, (rl_r M).2.1, (rl_r M).2.2, a0, a1, a2, a3, a4, a5, b0, b1, b2, b3, b4, b5, c0, c1, c2, c3, c4, c5, ↓if_pos, ↓if_neg, bd, List.getD_cons_succ, List.getD_cons_zero]
theorem k206 (hM : IsM M 0 T) (hW : WF T) {r w : Nat} (hr : r < T 1) (hw : w ≤ 5) : sw_Cal (d + 1) 206 [.ref 0, .int (nI r), .int (nI w)] M Q = if alB (T (21 + r)) w = true then Q (some (.int (nI 1))) M else Q (some (.int (nI 0))) M := by
  have w1 := hW.2.1
  have e2 := hM.z (21 + r) (by omega)
  have y := hW.2.2.2.2.2.1 r hr
  have y1 := y.1
  have y2 := y.2.1
  rw [c206]
  simp (disch := omega) only [s206_0, s206_1, s206_4, s206_6, s206_7, s206_8, s206_9, z_lt_t, z_lt_f, z_le_t, z_le_f, z_lt0, z_ge0, z_cl, z_in, z_add, z_eq_f, z_ne0, z_00, z_10, z_01, z_11, z_neg1, z_nI_NONE, z_div, z_rem, z_rem2, sw_pu_s, sw_pu_n, true_and, and_true, true_or, or_true, if_true, if_false, not_true_eq_false, not_false_eq_true, e2]
  generalize T (21 + r) = k at *
  rcases (show k = 1 ∨ k = 2 ∨ k = 3 ∨ k = 4 ∨ k = 5 by omega) with rfl | rfl | rfl | rfl | rfl <;>
    rcases (show w = 0 ∨ w = 1 ∨ w = 2 ∨ w = 3 ∨ w = 4 ∨ w = 5 by omega) with rfl | rfl | rfl | rfl | rfl | rfl <;>
    first
    | (rw [if_pos (by decide)]
       simp (disch := omega) only [s206_10, s206_11, s206_14, s206_15, s206_16, s206_19, s206_20, s206_21, s206_24, s206_25, s206_26, s206_29, s206_30, s206_31, s206_34, s206_35, s206_36, s206_39, s206_40, s206_41, s206_44, s206_45, s206_48, s206_49, z_lt_t, z_lt_f, z_le_t, z_le_f, z_lt0, z_ge0, z_cl, z_in, z_add, z_eq_f, z_ne0, z_00, z_10, z_01, z_11, z_neg1, z_nI_NONE, z_div, z_rem, z_rem2, sw_pu_s, sw_pu_n, true_and, and_true, true_or, or_true, if_true, if_false, not_true_eq_false, not_false_eq_true])
    | (rw [if_neg (by decide)]
       simp (disch := omega) only [s206_10, s206_11, s206_14, s206_15, s206_16, s206_19, s206_20, s206_21, s206_24, s206_25, s206_26, s206_29, s206_30, s206_31, s206_34, s206_35, s206_36, s206_39, s206_40, s206_41, s206_44, s206_45, s206_48, s206_49, z_lt_t, z_lt_f, z_le_t, z_le_f, z_lt0, z_ge0, z_cl, z_in, z_add, z_eq_f, z_ne0, z_00, z_10, z_01, z_11, z_neg1, z_nI_NONE, z_div, z_rem, z_rem2, sw_pu_s, sw_pu_n, true_and, and_true, true_or, or_true, if_true, if_false, not_true_eq_false, not_false_eq_true])
/-- a number left in the trace -/
def lvC (n b : Nat) (M : sw_Mem) : sw_Mem := sw_up (sw_up M 108 n (nI b)) 107 1 (nI (n + 1))
def lvM (n b : Nat) (M : sw_Mem) : sw_Mem := sw_up (sw_up M 7 n (nI b)) 0 12 (nI (n + 1))
def lsC : List Nat → Nat → sw_Mem → sw_Mem
  | [], _, M => M
  | b :: L, n, M => lsC L (n + 1) (lvC n b M)
def lsM : List Nat → Nat → sw_Mem → sw_Mem
  | [], _, M => M
  | b :: L, n, M => lsM L (n + 1) (lvM n b M)
def lsF : List Nat → Nat → (Nat → Int32) → Nat → Int32
  | [], _, f => f
  | b :: L, n, f => lsF L (n + 1) (fun i => if i = n then nI b else f i)
theorem lvC_o (b : Nat) (M : sw_Mem) {q : Nat} (h : q ≠ 107) (h2 : q ≠ 108) : lvC n b M q = M q := by unfold lvC; rw [z_up_n _ _ h, z_up_n _ _ h2]
theorem lvM_o (b : Nat) (M : sw_Mem) {q : Nat} (h : q ≠ 0) (h2 : q ≠ 7) : lvM n b M q = M q := by unfold lvM; rw [z_up_n _ _ h, z_up_n _ _ h2]
theorem lvM_0 (b : Nat) (M : sw_Mem) {j : Nat} (h : j ≠ 12) : lvM n b M 0 j = M 0 j := by unfold lvM; rw [z_up_j _ _ h, z_up_n _ _ (by omega)]
theorem lsC_o {q : Nat} (h : q ≠ 107) (h2 : q ≠ 108) : ∀ (L : List Nat) (n : Nat) (M : sw_Mem), lsC L n M q = M q := by
  intro L
  induction L with
  | nil => intro n M; rfl
  | cons b L ih => intro n M; exact (ih _ _).trans (lvC_o b M h h2)
theorem lsM_o {q : Nat} (h : q ≠ 0) (h2 : q ≠ 7) : ∀ (L : List Nat) (n : Nat) (M : sw_Mem), lsM L n M q = M q := by
  intro L
  induction L with
  | nil => intro n M; rfl
  | cons b L ih => intro n M; exact (ih _ _).trans (lvM_o b M h h2)
theorem lsM_0 {j : Nat} (h : j ≠ 12) : ∀ (L : List Nat) (n : Nat) (M : sw_Mem), lsM L n M 0 j = M 0 j := by
  intro L
  induction L with
  | nil => intro n M; rfl
  | cons b L ih => intro n M; exact (ih _ _).trans (lvM_0 b M h)
theorem lsC_tc : ∀ (L : List Nat) (n : Nat) (M : sw_Mem) (f : Nat → Int32), CTc (f, n) M → CTc (lsF L n f, n + L.length) (lsC L n M) := by
  intro L
  induction L with
  | nil => intro n M f h; exact h
  | cons b L ih =>
    intro n M f h
    have := ih (n + 1) (lvC n b M) (fun i => if i = n then nI b else f i) ⟨z_up_s _ _ _ _, fun i hi => ?_⟩
    · rw [show n + 1 + L.length = n + (b :: L).length by rw [List.length_cons]; omega] at this
      exact this
    · have hi : i < n + 1 := hi
      unfold lvC
      rw [z_up_n _ _ (by omega)]
      dsimp only
      by_cases e : i = n
      · subst e
        rw [z_up_s, if_pos rfl]
      · rw [z_up_j _ _ e, if_neg e]
        exact h.2 i (show i < n by omega)
theorem lsM_tc : ∀ (L : List Nat) (n : Nat) (M : sw_Mem) (f : Nat → Int32), MTc (f, n) M → MTc (lsF L n f, n + L.length) (lsM L n M) := by
  intro L
  induction L with
  | nil => intro n M f h; exact h
  | cons b L ih =>
    intro n M f h
    have := ih (n + 1) (lvM n b M) (fun i => if i = n then nI b else f i) ⟨z_up_s _ _ _ _, fun i hi => ?_⟩
    · rw [show n + 1 + L.length = n + (b :: L).length by rw [List.length_cons]; omega] at this
      exact this
    · have hi : i < n + 1 := hi
      unfold lvM
      rw [z_up_n _ _ (by omega)]
      dsimp only
      by_cases e : i = n
      · subst e
        rw [z_up_s, if_pos rfl]
      · rw [z_up_j _ _ e, if_neg e]
        exact h.2 i (show i < n by omega)
def AS (M : sw_Mem) (n k : Nat) (rk fu nm : Int32) : Prop := M 107 1 = nI n ∧ M 107 2 = nI k ∧ M 107 3 = rk ∧ M 107 4 = fu ∧ M 107 5 = nm ∧ CKn M
theorem AS.lv (h : AS M n k rk fu nm) (b : Nat) : AS (lvC n b M) (n + 1) k rk fu nm := by
  obtain ⟨h1, h2, h3, h4, h5, h6⟩ := h
  have e : ∀ j, j ≠ 1 → lvC n b M 107 j = M 107 j := fun j hj => by unfold lvC; rw [z_up_j _ _ hj, z_up_n _ _ (by omega)]
  exact ⟨z_up_s _ _ _ _, by rw [e _ (by omega)]; exact h2, by rw [e _ (by omega)]; exact h3, by rw [e _ (by omega)]; exact h4, by rw [e _ (by omega)]; exact h5, CKn_c h6 (fun k _ _ => lvC_o b M (by omega) (by omega))⟩
theorem k7 (h : M 107 1 = nI n) (hn : n < 16) (b : Nat) : sw_Cal (d + 1) 7 [.ref 107, .int (nI b)] M Q = Q none (lvC n b M) := by
  rw [c7]
  simp (disch := omega) only [s7_0, s7_1, s7_4, s7_6, s7_9, s7_10, s7_13, s7_14, s7_17, s7_18, s7_19, s7_20, s7_21, s7_24, s7_25, s7_26, s7_29, z_lt_t, z_lt_f, z_le_t, z_le_f, z_lt0, z_ge0, z_cl, z_in, z_add, z_eq_f, z_ne0, z_00, z_10, z_01, z_11, z_neg1, z_nI_NONE, z_div, z_rem, z_rem2, sw_pu_s, sw_pu_n, true_and, and_true, true_or, or_true, if_true, if_false, not_true_eq_false, not_false_eq_true, h, z_up_n]
  rfl
theorem kb10 (h : AS M n k rk fu nm) (hn : n < 16) (hd : dep ≤ 12) : sw_Cal (d + 2) 6 [.ref 107, .int (nI 10), .int (nI dep)] M Q = Q (some (.int (rk))) (lsC [10] n M) := by
  have h7 := fun d Q => k7 (d := d) (Q := Q) h.1 (show n < 16 by omega) 10
  have h' := h.lv 10
  obtain ⟨-, f2, f3, f4, f5, -⟩ := h'
  rw [c6]
  simp (disch := omega) only [s6_0, s6_1, s6_3, s6_6, s6_7, s6_8, s6_9, s6_10, s6_13, s6_14, s6_15, s6_16, s6_17, s6_18, s6_21, c223, s223_0, s223_1, s223_76, s223_77, s223_80, s223_81, s223_82, s223_84, s223_85, s223_88, s223_89, s223_90, s223_91, s223_94, s223_95, s223_96, s223_97, s223_99, s223_100, s223_103, s223_104, s223_105, s223_106, s223_108, s223_109, s223_112, s223_114, s223_115, s223_116, s223_117, s223_118, s223_120, s223_121, s223_124, s223_125, s223_126, s223_127, s223_130, s223_131, s223_132, s223_134, s223_135, s223_138, s223_139, s223_142, s223_143, s223_144, s223_145, s223_147, s223_148, s223_151, s223_154, s223_155, s223_156, s223_157, s223_159, s223_160, s223_163, s223_164, s223_165, s223_166, s223_169, s223_170, s223_171, s223_172, s223_173, s223_175, s223_176, s223_179, s223_180, s223_181, s223_182, z_lt_t, z_lt_f, z_le_t, z_le_f, z_lt0, z_ge0, z_cl, z_in, z_add, z_eq_f, z_ne0, z_00, z_10, z_01, z_11, z_neg1, z_nI_NONE, z_div, z_rem, z_rem2, sw_pu_s, sw_pu_n, true_and, and_true, true_or, or_true, if_true, if_false, not_true_eq_false, not_false_eq_true, h7, f3, f4, f5, show sw_pick [10, 11, 12, 13, 14, 15, 16, 17, 18, 19, 20, 21, 22, 23, 24] [76, 81, 96, 105, 116, 181, 181, 181, 181, 181, 126, 131, 144, 156, 171, 181] (nI 10).toInt = 76 from by decide]
  rfl
theorem kb20 (h : AS M n k rk fu nm) (hn : n < 16) (hd : dep ≤ 12) : sw_Cal (d + 2) 6 [.ref 107, .int (nI 20), .int (nI dep)] M Q = Q (some (.int (nm))) (lsC [20] n M) := by
  have h7 := fun d Q => k7 (d := d) (Q := Q) h.1 (show n < 16 by omega) 20
  have h' := h.lv 20
  obtain ⟨-, f2, f3, f4, f5, -⟩ := h'
  rw [c6]
  simp (disch := omega) only [s6_0, s6_1, s6_3, s6_6, s6_7, s6_8, s6_9, s6_10, s6_13, s6_14, s6_15, s6_16, s6_17, s6_18, s6_21, c223, s223_0, s223_1, s223_76, s223_77, s223_80, s223_81, s223_82, s223_84, s223_85, s223_88, s223_89, s223_90, s223_91, s223_94, s223_95, s223_96, s223_97, s223_99, s223_100, s223_103, s223_104, s223_105, s223_106, s223_108, s223_109, s223_112, s223_114, s223_115, s223_116, s223_117, s223_118, s223_120, s223_121, s223_124, s223_125, s223_126, s223_127, s223_130, s223_131, s223_132, s223_134, s223_135, s223_138, s223_139, s223_142, s223_143, s223_144, s223_145, s223_147, s223_148, s223_151, s223_154, s223_155, s223_156, s223_157, s223_159, s223_160, s223_163, s223_164, s223_165, s223_166, s223_169, s223_170, s223_171, s223_172, s223_173, s223_175, s223_176, s223_179, s223_180, s223_181, s223_182, z_lt_t, z_lt_f, z_le_t, z_le_f, z_lt0, z_ge0, z_cl, z_in, z_add, z_eq_f, z_ne0, z_00, z_10, z_01, z_11, z_neg1, z_nI_NONE, z_div, z_rem, z_rem2, sw_pu_s, sw_pu_n, true_and, and_true, true_or, or_true, if_true, if_false, not_true_eq_false, not_false_eq_true, h7, f3, f4, f5, show sw_pick [10, 11, 12, 13, 14, 15, 16, 17, 18, 19, 20, 21, 22, 23, 24] [76, 81, 96, 105, 116, 181, 181, 181, 181, 181, 126, 131, 144, 156, 171, 181] (nI 20).toInt = 126 from by decide]
  rfl
theorem kb21 (h : AS M n k rk fu nm) (hn : n < 15) (hd : dep ≤ 11) : sw_Cal (d + 4) 6 [.ref 107, .int (nI 21), .int (nI dep)] M Q = Q (some (.int (nm + fu))) (lsC [21, 20] n M) := by
  have h7 := fun d Q => k7 (d := d) (Q := Q) h.1 (show n < 16 by omega) 21
  have h' := h.lv 21
  have hb := fun Q => kb20 (d := d) (dep := dep + 1) (Q := Q) h' (by omega) (by omega)
  have fb : lsC [20] (n + 1) (lvC n 21 M) 107 4 = fu := (h'.lv 20).2.2.2.1
  obtain ⟨-, f2, f3, f4, f5, -⟩ := h'
  rw [c6]
  simp (disch := omega) only [s6_0, s6_1, s6_3, s6_6, s6_7, s6_8, s6_9, s6_10, s6_13, s6_14, s6_15, s6_16, s6_17, s6_18, s6_21, c223, s223_0, s223_1, s223_76, s223_77, s223_80, s223_81, s223_82, s223_84, s223_85, s223_88, s223_89, s223_90, s223_91, s223_94, s223_95, s223_96, s223_97, s223_99, s223_100, s223_103, s223_104, s223_105, s223_106, s223_108, s223_109, s223_112, s223_114, s223_115, s223_116, s223_117, s223_118, s223_120, s223_121, s223_124, s223_125, s223_126, s223_127, s223_130, s223_131, s223_132, s223_134, s223_135, s223_138, s223_139, s223_142, s223_143, s223_144, s223_145, s223_147, s223_148, s223_151, s223_154, s223_155, s223_156, s223_157, s223_159, s223_160, s223_163, s223_164, s223_165, s223_166, s223_169, s223_170, s223_171, s223_172, s223_173, s223_175, s223_176, s223_179, s223_180, s223_181, s223_182, z_lt_t, z_lt_f, z_le_t, z_le_f, z_lt0, z_ge0, z_cl, z_in, z_add, z_eq_f, z_ne0, z_00, z_10, z_01, z_11, z_neg1, z_nI_NONE, z_div, z_rem, z_rem2, sw_pu_s, sw_pu_n, true_and, and_true, true_or, or_true, if_true, if_false, not_true_eq_false, not_false_eq_true, h7, f3, f4, f5, show sw_pick [10, 11, 12, 13, 14, 15, 16, 17, 18, 19, 20, 21, 22, 23, 24] [76, 81, 96, 105, 116, 181, 181, 181, 181, 181, 126, 131, 144, 156, 171, 181] (nI 21).toInt = 131 from by decide, hb, fb]
  rfl
theorem kb22 (h : AS M n k rk fu nm) (hn : n < 14) (hd : dep ≤ 10) : sw_Cal (d + 6) 6 [.ref 107, .int (nI 22), .int (nI dep)] M Q = Q (some (.int (nm + fu - nI 1000))) (lsC [22, 21, 20] n M) := by
  have h7 := fun d Q => k7 (d := d) (Q := Q) h.1 (show n < 16 by omega) 22
  have h' := h.lv 22
  have hb := fun Q => kb21 (d := d) (dep := dep + 1) (Q := Q) h' (by omega) (by omega)
  obtain ⟨-, f2, f3, f4, f5, -⟩ := h'
  rw [c6]
  simp (disch := omega) only [s6_0, s6_1, s6_3, s6_6, s6_7, s6_8, s6_9, s6_10, s6_13, s6_14, s6_15, s6_16, s6_17, s6_18, s6_21, c223, s223_0, s223_1, s223_76, s223_77, s223_80, s223_81, s223_82, s223_84, s223_85, s223_88, s223_89, s223_90, s223_91, s223_94, s223_95, s223_96, s223_97, s223_99, s223_100, s223_103, s223_104, s223_105, s223_106, s223_108, s223_109, s223_112, s223_114, s223_115, s223_116, s223_117, s223_118, s223_120, s223_121, s223_124, s223_125, s223_126, s223_127, s223_130, s223_131, s223_132, s223_134, s223_135, s223_138, s223_139, s223_142, s223_143, s223_144, s223_145, s223_147, s223_148, s223_151, s223_154, s223_155, s223_156, s223_157, s223_159, s223_160, s223_163, s223_164, s223_165, s223_166, s223_169, s223_170, s223_171, s223_172, s223_173, s223_175, s223_176, s223_179, s223_180, s223_181, s223_182, z_lt_t, z_lt_f, z_le_t, z_le_f, z_lt0, z_ge0, z_cl, z_in, z_add, z_eq_f, z_ne0, z_00, z_10, z_01, z_11, z_neg1, z_nI_NONE, z_div, z_rem, z_rem2, sw_pu_s, sw_pu_n, true_and, and_true, true_or, or_true, if_true, if_false, not_true_eq_false, not_false_eq_true, h7, f3, f4, f5, show sw_pick [10, 11, 12, 13, 14, 15, 16, 17, 18, 19, 20, 21, 22, 23, 24] [76, 81, 96, 105, 116, 181, 181, 181, 181, 181, 126, 131, 144, 156, 171, 181] (nI 22).toInt = 144 from by decide, hb]
  rfl
theorem kb24 (h : AS M n k rk fu nm) (hn : n < 14) (hd : dep ≤ 10) : sw_Cal (d + 6) 6 [.ref 107, .int (nI 24), .int (nI dep)] M Q = Q (some (.int (nI 2 * (nm + fu)))) (lsC [24, 21, 20] n M) := by
  have h7 := fun d Q => k7 (d := d) (Q := Q) h.1 (show n < 16 by omega) 24
  have h' := h.lv 24
  have hb := fun Q => kb21 (d := d) (dep := dep + 1) (Q := Q) h' (by omega) (by omega)
  obtain ⟨-, f2, f3, f4, f5, -⟩ := h'
  rw [c6]
  simp (disch := omega) only [s6_0, s6_1, s6_3, s6_6, s6_7, s6_8, s6_9, s6_10, s6_13, s6_14, s6_15, s6_16, s6_17, s6_18, s6_21, c223, s223_0, s223_1, s223_76, s223_77, s223_80, s223_81, s223_82, s223_84, s223_85, s223_88, s223_89, s223_90, s223_91, s223_94, s223_95, s223_96, s223_97, s223_99, s223_100, s223_103, s223_104, s223_105, s223_106, s223_108, s223_109, s223_112, s223_114, s223_115, s223_116, s223_117, s223_118, s223_120, s223_121, s223_124, s223_125, s223_126, s223_127, s223_130, s223_131, s223_132, s223_134, s223_135, s223_138, s223_139, s223_142, s223_143, s223_144, s223_145, s223_147, s223_148, s223_151, s223_154, s223_155, s223_156, s223_157, s223_159, s223_160, s223_163, s223_164, s223_165, s223_166, s223_169, s223_170, s223_171, s223_172, s223_173, s223_175, s223_176, s223_179, s223_180, s223_181, s223_182, z_lt_t, z_lt_f, z_le_t, z_le_f, z_lt0, z_ge0, z_cl, z_in, z_add, z_eq_f, z_ne0, z_00, z_10, z_01, z_11, z_neg1, z_nI_NONE, z_div, z_rem, z_rem2, sw_pu_s, sw_pu_n, true_and, and_true, true_or, or_true, if_true, if_false, not_true_eq_false, not_false_eq_true, h7, f3, f4, f5, show sw_pick [10, 11, 12, 13, 14, 15, 16, 17, 18, 19, 20, 21, 22, 23, 24] [76, 81, 96, 105, 116, 181, 181, 181, 181, 181, 126, 131, 144, 156, 171, 181] (nI 24).toInt = 171 from by decide, hb]
  rfl
theorem kb13 (h : AS M n k rk fu nm) (hn : n < 15) (hd : dep ≤ 11) : sw_Cal (d + 4) 6 [.ref 107, .int (nI 13), .int (nI dep)] M Q = Q (some (.int (rk - nI 100))) (lsC [13, 10] n M) := by
  have h7 := fun d Q => k7 (d := d) (Q := Q) h.1 (show n < 16 by omega) 13
  have h' := h.lv 13
  have hb := fun Q => kb10 (d := d) (dep := dep + 1) (Q := Q) h' (by omega) (by omega)
  obtain ⟨-, f2, f3, f4, f5, -⟩ := h'
  rw [c6]
  simp (disch := omega) only [s6_0, s6_1, s6_3, s6_6, s6_7, s6_8, s6_9, s6_10, s6_13, s6_14, s6_15, s6_16, s6_17, s6_18, s6_21, c223, s223_0, s223_1, s223_76, s223_77, s223_80, s223_81, s223_82, s223_84, s223_85, s223_88, s223_89, s223_90, s223_91, s223_94, s223_95, s223_96, s223_97, s223_99, s223_100, s223_103, s223_104, s223_105, s223_106, s223_108, s223_109, s223_112, s223_114, s223_115, s223_116, s223_117, s223_118, s223_120, s223_121, s223_124, s223_125, s223_126, s223_127, s223_130, s223_131, s223_132, s223_134, s223_135, s223_138, s223_139, s223_142, s223_143, s223_144, s223_145, s223_147, s223_148, s223_151, s223_154, s223_155, s223_156, s223_157, s223_159, s223_160, s223_163, s223_164, s223_165, s223_166, s223_169, s223_170, s223_171, s223_172, s223_173, s223_175, s223_176, s223_179, s223_180, s223_181, s223_182, z_lt_t, z_lt_f, z_le_t, z_le_f, z_lt0, z_ge0, z_cl, z_in, z_add, z_eq_f, z_ne0, z_00, z_10, z_01, z_11, z_neg1, z_nI_NONE, z_div, z_rem, z_rem2, sw_pu_s, sw_pu_n, true_and, and_true, true_or, or_true, if_true, if_false, not_true_eq_false, not_false_eq_true, h7, f3, f4, f5, show sw_pick [10, 11, 12, 13, 14, 15, 16, 17, 18, 19, 20, 21, 22, 23, 24] [76, 81, 96, 105, 116, 181, 181, 181, 181, 181, 126, 131, 144, 156, 171, 181] (nI 13).toInt = 105 from by decide, hb]
  rfl
theorem kb14 (h : AS M n k rk fu nm) (hn : n < 14) (hd : dep ≤ 10) : sw_Cal (d + 6) 6 [.ref 107, .int (nI 14), .int (nI dep)] M Q = Q (some (.int (nI 2 * (rk - nI 100)))) (lsC [14, 13, 10] n M) := by
  have h7 := fun d Q => k7 (d := d) (Q := Q) h.1 (show n < 16 by omega) 14
  have h' := h.lv 14
  have hb := fun Q => kb13 (d := d) (dep := dep + 1) (Q := Q) h' (by omega) (by omega)
  obtain ⟨-, f2, f3, f4, f5, -⟩ := h'
  rw [c6]
  simp (disch := omega) only [s6_0, s6_1, s6_3, s6_6, s6_7, s6_8, s6_9, s6_10, s6_13, s6_14, s6_15, s6_16, s6_17, s6_18, s6_21, c223, s223_0, s223_1, s223_76, s223_77, s223_80, s223_81, s223_82, s223_84, s223_85, s223_88, s223_89, s223_90, s223_91, s223_94, s223_95, s223_96, s223_97, s223_99, s223_100, s223_103, s223_104, s223_105, s223_106, s223_108, s223_109, s223_112, s223_114, s223_115, s223_116, s223_117, s223_118, s223_120, s223_121, s223_124, s223_125, s223_126, s223_127, s223_130, s223_131, s223_132, s223_134, s223_135, s223_138, s223_139, s223_142, s223_143, s223_144, s223_145, s223_147, s223_148, s223_151, s223_154, s223_155, s223_156, s223_157, s223_159, s223_160, s223_163, s223_164, s223_165, s223_166, s223_169, s223_170, s223_171, s223_172, s223_173, s223_175, s223_176, s223_179, s223_180, s223_181, s223_182, z_lt_t, z_lt_f, z_le_t, z_le_f, z_lt0, z_ge0, z_cl, z_in, z_add, z_eq_f, z_ne0, z_00, z_10, z_01, z_11, z_neg1, z_nI_NONE, z_div, z_rem, z_rem2, sw_pu_s, sw_pu_n, true_and, and_true, true_or, or_true, if_true, if_false, not_true_eq_false, not_false_eq_true, h7, f3, f4, f5, show sw_pick [10, 11, 12, 13, 14, 15, 16, 17, 18, 19, 20, 21, 22, 23, 24] [76, 81, 96, 105, 116, 181, 181, 181, 181, 181, 126, 131, 144, 156, 171, 181] (nI 14).toInt = 116 from by decide, hb]
  rfl
/-- the mark of the first three kinds -/
def mkL (k : Nat) : List Nat := if k = 2 then [24, 21, 20] else if k = 3 then [22, 21, 20] else [21, 20]
def mkV (k : Nat) (fu nm : Int32) : Int32 := if k = 2 then nI 2 * (nm + fu) else if k = 3 then nm + fu - nI 1000 else nm + fu
theorem k5m (h : AS M n k rk fu nm) (hn : n < 14) (hd : dep ≤ 10) (h1 : 1 ≤ k) (h3 : k ≤ 3) : sw_Cal (d + 7) 5 [.ref 107, .int (nI 1), .int (nI dep)] M Q = Q (some (.int (mkV k fu nm))) (lsC (mkL k) n M) := by
  have h31 := fun d Q => k31 (d := d) (Q := Q) (w := 1) h.2.2.2.2.2 h1 (show k ≤ 5 by omega) (by omega)
  have f2 := h.2.1
  have hb1 := fun d Q => kb21 (d := d) (Q := Q) h (by omega) (show dep ≤ 11 by omega)
  have hb2 := fun d Q => kb24 (d := d) (Q := Q) h hn hd
  have hb3 := fun d Q => kb22 (d := d) (Q := Q) h hn hd
  rw [c5]
  rcases (show k = 1 ∨ k = 2 ∨ k = 3 by omega) with rfl | rfl | rfl
  · rw [show bd 1 1 = 21 from rfl] at h31
    simp (disch := omega) only [s5_0, s5_1, s5_2, s5_5, s5_6, s5_9, s5_10, s5_13, z_lt_t, z_lt_f, z_le_t, z_le_f, z_lt0, z_ge0, z_cl, z_in, z_add, z_eq_f, z_ne0, z_00, z_10, z_01, z_11, z_neg1, z_nI_NONE, z_div, z_rem, z_rem2, sw_pu_s, sw_pu_n, true_and, and_true, true_or, or_true, if_true, if_false, not_true_eq_false, not_false_eq_true, f2, h31, hb1]
    rfl
  · rw [show bd 2 1 = 24 from rfl] at h31
    simp (disch := omega) only [s5_0, s5_1, s5_2, s5_5, s5_6, s5_9, s5_10, s5_13, z_lt_t, z_lt_f, z_le_t, z_le_f, z_lt0, z_ge0, z_cl, z_in, z_add, z_eq_f, z_ne0, z_00, z_10, z_01, z_11, z_neg1, z_nI_NONE, z_div, z_rem, z_rem2, sw_pu_s, sw_pu_n, true_and, and_true, true_or, or_true, if_true, if_false, not_true_eq_false, not_false_eq_true, f2, h31, hb2]
    rfl
  · rw [show bd 3 1 = 22 from rfl] at h31
    simp (disch := omega) only [s5_0, s5_1, s5_2, s5_5, s5_6, s5_9, s5_10, s5_13, z_lt_t, z_lt_f, z_le_t, z_le_f, z_lt0, z_ge0, z_cl, z_in, z_add, z_eq_f, z_ne0, z_00, z_10, z_01, z_11, z_neg1, z_nI_NONE, z_div, z_rem, z_rem2, sw_pu_s, sw_pu_n, true_and, and_true, true_or, or_true, if_true, if_false, not_true_eq_false, not_false_eq_true, f2, h31, hb3]
    rfl
theorem kb11 (h : AS M n k rk fu nm) (hn : n < 12) (hd : dep ≤ 9) (h1 : 1 ≤ k) (h3 : k ≤ 3) : sw_Cal (d + 9) 6 [.ref 107, .int (nI 11), .int (nI dep)] M Q = Q (some (.int (rk + mkV k fu nm))) (lsC ([11, 10] ++ mkL k) n M) := by
  have h7 := fun d Q => k7 (d := d) (Q := Q) h.1 (show n < 16 by omega) 11
  have h' := h.lv 11
  have hb := fun d Q => kb10 (d := d) (dep := dep + 1) (Q := Q) h' (by omega) (by omega)
  have hm := fun d Q => k5m (d := d) (dep := dep + 1) (Q := Q) (M := lsC [10] (n + 1) (lvC n 11 M)) (n := n + 1 + 1) (h'.lv 10) (by omega) (by omega) h1 h3
  obtain ⟨-, f2, f3, f4, f5, -⟩ := h'
  rw [c6]
  simp (disch := omega) only [s6_0, s6_1, s6_3, s6_6, s6_7, s6_8, s6_9, s6_10, s6_13, s6_14, s6_15, s6_16, s6_17, s6_18, s6_21, c223, s223_0, s223_1, s223_76, s223_77, s223_80, s223_81, s223_82, s223_84, s223_85, s223_88, s223_89, s223_90, s223_91, s223_94, s223_95, s223_96, s223_97, s223_99, s223_100, s223_103, s223_104, s223_105, s223_106, s223_108, s223_109, s223_112, s223_114, s223_115, s223_116, s223_117, s223_118, s223_120, s223_121, s223_124, s223_125, s223_126, s223_127, s223_130, s223_131, s223_132, s223_134, s223_135, s223_138, s223_139, s223_142, s223_143, s223_144, s223_145, s223_147, s223_148, s223_151, s223_154, s223_155, s223_156, s223_157, s223_159, s223_160, s223_163, s223_164, s223_165, s223_166, s223_169, s223_170, s223_171, s223_172, s223_173, s223_175, s223_176, s223_179, s223_180, s223_181, s223_182, z_lt_t, z_lt_f, z_le_t, z_le_f, z_lt0, z_ge0, z_cl, z_in, z_add, z_eq_f, z_ne0, z_00, z_10, z_01, z_11, z_neg1, z_nI_NONE, z_div, z_rem, z_rem2, sw_pu_s, sw_pu_n, true_and, and_true, true_or, or_true, if_true, if_false, not_true_eq_false, not_false_eq_true, h7, f3, f4, f5, show sw_pick [10, 11, 12, 13, 14, 15, 16, 17, 18, 19, 20, 21, 22, 23, 24] [76, 81, 96, 105, 116, 181, 181, 181, 181, 181, 126, 131, 144, 156, 171, 181] (nI 11).toInt = 81 from by decide, hb, hm]
  rfl
theorem kb12 (h : AS M n k rk fu nm) (hn : n < 11) (hd : dep ≤ 8) (h1 : 1 ≤ k) (h3 : k ≤ 3) : sw_Cal (d + 11) 6 [.ref 107, .int (nI 12), .int (nI dep)] M Q = Q (some (.int (-(rk + mkV k fu nm)))) (lsC ([12, 11, 10] ++ mkL k) n M) := by
  have h7 := fun d Q => k7 (d := d) (Q := Q) h.1 (show n < 16 by omega) 12
  have h' := h.lv 12
  have hb := fun d Q => kb11 (d := d) (dep := dep + 1) (Q := Q) h' (by omega) (by omega) h1 h3
  obtain ⟨-, f2, f3, f4, f5, -⟩ := h'
  rw [c6]
  simp (disch := omega) only [s6_0, s6_1, s6_3, s6_6, s6_7, s6_8, s6_9, s6_10, s6_13, s6_14, s6_15, s6_16, s6_17, s6_18, s6_21, c223, s223_0, s223_1, s223_76, s223_77, s223_80, s223_81, s223_82, s223_84, s223_85, s223_88, s223_89, s223_90, s223_91, s223_94, s223_95, s223_96, s223_97, s223_99, s223_100, s223_103, s223_104, s223_105, s223_106, s223_108, s223_109, s223_112, s223_114, s223_115, s223_116, s223_117, s223_118, s223_120, s223_121, s223_124, s223_125, s223_126, s223_127, s223_130, s223_131, s223_132, s223_134, s223_135, s223_138, s223_139, s223_142, s223_143, s223_144, s223_145, s223_147, s223_148, s223_151, s223_154, s223_155, s223_156, s223_157, s223_159, s223_160, s223_163, s223_164, s223_165, s223_166, s223_169, s223_170, s223_171, s223_172, s223_173, s223_175, s223_176, s223_179, s223_180, s223_181, s223_182, z_lt_t, z_lt_f, z_le_t, z_le_f, z_lt0, z_ge0, z_cl, z_in, z_add, z_eq_f, z_ne0, z_00, z_10, z_01, z_11, z_neg1, z_nI_NONE, z_div, z_rem, z_rem2, sw_pu_s, sw_pu_n, true_and, and_true, true_or, or_true, if_true, if_false, not_true_eq_false, not_false_eq_true, h7, f3, f4, f5, show sw_pick [10, 11, 12, 13, 14, 15, 16, 17, 18, 19, 20, 21, 22, 23, 24] [76, 81, 96, 105, 116, 181, 181, 181, 181, 181, 126, 131, 144, 156, 171, 181] (nI 12).toInt = 96 from by decide, hb]
  rfl
def szL (k : Nat) : List Nat := if k = 2 then [12, 11, 10] ++ mkL 2 else if k = 4 then [13, 10] else if k = 5 then [14, 13, 10] else [11, 10] ++ mkL k
def szV (k : Nat) (rk fu nm : Int32) : Int32 := if k = 2 then -(rk + mkV 2 fu nm) else if k = 4 then rk - nI 100 else if k = 5 then nI 2 * (rk - nI 100) else rk + mkV k fu nm
theorem k5s (h : AS M n k rk fu nm) (hn : n < 11) (hd : dep ≤ 8) (h1 : 1 ≤ k) (h3 : k ≤ 5) : sw_Cal (d + 12) 5 [.ref 107, .int (nI 0), .int (nI dep)] M Q = Q (some (.int (szV k rk fu nm))) (lsC (szL k) n M) := by
  have h31 := fun d Q => k31 (d := d) (Q := Q) (w := 0) h.2.2.2.2.2 h1 (show k ≤ 5 by omega) (by omega)
  have f2 := h.2.1
  have hb4 := fun d Q => kb13 (d := d) (Q := Q) h (by omega) (show dep ≤ 11 by omega)
  have hb5 := fun d Q => kb14 (d := d) (Q := Q) h (by omega) (show dep ≤ 10 by omega)
  have hb2 := fun d Q h1 h3 => kb12 (d := d) (Q := Q) h hn hd h1 h3
  have hb1 := fun d Q h1 h3 => kb11 (d := d) (Q := Q) h (by omega) (show dep ≤ 9 by omega) h1 h3
  rw [c5]
  rcases (show k = 1 ∨ k = 2 ∨ k = 3 ∨ k = 4 ∨ k = 5 by omega) with rfl | rfl | rfl | rfl | rfl
  · rw [show bd 1 0 = 11 from rfl] at h31
    simp (disch := omega) only [s5_0, s5_1, s5_2, s5_5, s5_6, s5_9, s5_10, s5_13, z_lt_t, z_lt_f, z_le_t, z_le_f, z_lt0, z_ge0, z_cl, z_in, z_add, z_eq_f, z_ne0, z_00, z_10, z_01, z_11, z_neg1, z_nI_NONE, z_div, z_rem, z_rem2, sw_pu_s, sw_pu_n, true_and, and_true, true_or, or_true, if_true, if_false, not_true_eq_false, not_false_eq_true, f2, h31, hb1]
    rfl
  · rw [show bd 2 0 = 12 from rfl] at h31
    simp (disch := omega) only [s5_0, s5_1, s5_2, s5_5, s5_6, s5_9, s5_10, s5_13, z_lt_t, z_lt_f, z_le_t, z_le_f, z_lt0, z_ge0, z_cl, z_in, z_add, z_eq_f, z_ne0, z_00, z_10, z_01, z_11, z_neg1, z_nI_NONE, z_div, z_rem, z_rem2, sw_pu_s, sw_pu_n, true_and, and_true, true_or, or_true, if_true, if_false, not_true_eq_false, not_false_eq_true, f2, h31, hb2]
    rfl
  · rw [show bd 3 0 = 11 from rfl] at h31
    simp (disch := omega) only [s5_0, s5_1, s5_2, s5_5, s5_6, s5_9, s5_10, s5_13, z_lt_t, z_lt_f, z_le_t, z_le_f, z_lt0, z_ge0, z_cl, z_in, z_add, z_eq_f, z_ne0, z_00, z_10, z_01, z_11, z_neg1, z_nI_NONE, z_div, z_rem, z_rem2, sw_pu_s, sw_pu_n, true_and, and_true, true_or, or_true, if_true, if_false, not_true_eq_false, not_false_eq_true, f2, h31, hb1]
    rfl
  · rw [show bd 4 0 = 13 from rfl] at h31
    simp (disch := omega) only [s5_0, s5_1, s5_2, s5_5, s5_6, s5_9, s5_10, s5_13, z_lt_t, z_lt_f, z_le_t, z_le_f, z_lt0, z_ge0, z_cl, z_in, z_add, z_eq_f, z_ne0, z_00, z_10, z_01, z_11, z_neg1, z_nI_NONE, z_div, z_rem, z_rem2, sw_pu_s, sw_pu_n, true_and, and_true, true_or, or_true, if_true, if_false, not_true_eq_false, not_false_eq_true, f2, h31, hb4]
    rfl
  · rw [show bd 5 0 = 14 from rfl] at h31
    simp (disch := omega) only [s5_0, s5_1, s5_2, s5_5, s5_6, s5_9, s5_10, s5_13, z_lt_t, z_lt_f, z_le_t, z_le_f, z_lt0, z_ge0, z_cl, z_in, z_add, z_eq_f, z_ne0, z_00, z_10, z_01, z_11, z_neg1, z_nI_NONE, z_div, z_rem, z_rem2, sw_pu_s, sw_pu_n, true_and, and_true, true_or, or_true, if_true, if_false, not_true_eq_false, not_false_eq_true, f2, h31, hb5]
    rfl
theorem kb23 (h : AS M n k rk fu nm) (hn : n < 9) (hd : dep ≤ 7) (h1 : 1 ≤ k) (h3 : k ≤ 5) : sw_Cal (d + 14) 6 [.ref 107, .int (nI 23), .int (nI dep)] M Q = Q (some (.int (nm - szV k rk fu nm))) (lsC ([23, 20] ++ szL k) n M) := by
  have h7 := fun d Q => k7 (d := d) (Q := Q) h.1 (show n < 16 by omega) 23
  have h' := h.lv 23
  have hb := fun d Q => kb20 (d := d) (dep := dep + 1) (Q := Q) h' (by omega) (by omega)
  have hm := fun d Q => k5s (d := d) (dep := dep + 1) (Q := Q) (M := lsC [20] (n + 1) (lvC n 23 M)) (n := n + 1 + 1) (h'.lv 20) (by omega) (by omega) h1 h3
  obtain ⟨-, f2, f3, f4, f5, -⟩ := h'
  rw [c6]
  simp (disch := omega) only [s6_0, s6_1, s6_3, s6_6, s6_7, s6_8, s6_9, s6_10, s6_13, s6_14, s6_15, s6_16, s6_17, s6_18, s6_21, c223, s223_0, s223_1, s223_76, s223_77, s223_80, s223_81, s223_82, s223_84, s223_85, s223_88, s223_89, s223_90, s223_91, s223_94, s223_95, s223_96, s223_97, s223_99, s223_100, s223_103, s223_104, s223_105, s223_106, s223_108, s223_109, s223_112, s223_114, s223_115, s223_116, s223_117, s223_118, s223_120, s223_121, s223_124, s223_125, s223_126, s223_127, s223_130, s223_131, s223_132, s223_134, s223_135, s223_138, s223_139, s223_142, s223_143, s223_144, s223_145, s223_147, s223_148, s223_151, s223_154, s223_155, s223_156, s223_157, s223_159, s223_160, s223_163, s223_164, s223_165, s223_166, s223_169, s223_170, s223_171, s223_172, s223_173, s223_175, s223_176, s223_179, s223_180, s223_181, s223_182, z_lt_t, z_lt_f, z_le_t, z_le_f, z_lt0, z_ge0, z_cl, z_in, z_add, z_eq_f, z_ne0, z_00, z_10, z_01, z_11, z_neg1, z_nI_NONE, z_div, z_rem, z_rem2, sw_pu_s, sw_pu_n, true_and, and_true, true_or, or_true, if_true, if_false, not_true_eq_false, not_false_eq_true, h7, f3, f4, f5, show sw_pick [10, 11, 12, 13, 14, 15, 16, 17, 18, 19, 20, 21, 22, 23, 24] [76, 81, 96, 105, 116, 181, 181, 181, 181, 181, 126, 131, 144, 156, 171, 181] (nI 23).toInt = 156 from by decide, hb, hm]
  rfl
end ASK
