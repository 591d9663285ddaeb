/-! a valley is told -/
abbrev isF (τ : Tp) (p : Nat) : Prop := p < τ.2 ∧ 48 ≤ τ.1 p ∧ τ.1 p ≤ 57
def fig (τ : Tp) (p : Nat) : Nat := if isF τ p then (if isF τ (p + 1) then (if isF τ (p + 2) then 3 else 2) else 1) else 0
def vlu (τ : Tp) (p : Nat) : Nat := if isF τ (p + 1) then 10 * (τ.1 p - 48) + (τ.1 (p + 1) - 48) else τ.1 p - 48
def nmK (τ : Tp) (lo hi p : Nat) : Nat := if fig τ p = 0 ∨ fig τ p = 3 then 1 else if vlu τ p < lo ∨ hi < vlu τ p then 2 else 0
abbrev Ss : Type := Nat × Nat
def tkS (τ : Tp) (c : Nat) (s : Ss) : Ss := if s.1 = 0 then (if s.2 < τ.2 ∧ τ.1 s.2 = c then (0, s.2 + 1) else (1, s.2)) else s
def nmS (τ : Tp) (lo hi : Nat) (s : Ss) : Ss := if s.1 = 0 then (if nmK τ lo hi s.2 = 0 then (0, s.2 + fig τ s.2) else (nmK τ lo hi s.2, s.2)) else s
def nmV (τ : Tp) (lo hi : Nat) (s : Ss) : Nat := if s.1 = 0 ∧ nmK τ lo hi s.2 = 0 then vlu τ s.2 else lo
def oS (τ : Tp) (s : Ss) : Prop := s.1 ≤ 3 ∧ s.2 ≤ τ.2
theorem tkS_ok {τ : Tp} {c : Nat} {s : Ss} (h : oS τ s) : oS τ (tkS τ c s) := by
  obtain ⟨h1, h2⟩ := h
  unfold tkS
  split
  · split
    · exact ⟨by dsimp only; omega, by dsimp only; omega⟩
    · exact ⟨by dsimp only; omega, h2⟩
  · exact ⟨h1, h2⟩
theorem nmK_le (τ : Tp) (lo hi p : Nat) : nmK τ lo hi p ≤ 2 := by
  unfold nmK
  split
  · omega
  · split <;> omega
theorem fig_le {τ : Tp} {lo hi p : Nat} (h : nmK τ lo hi p = 0) : p + fig τ p ≤ τ.2 := by
  have hf : fig τ p ≠ 0 ∧ fig τ p ≠ 3 := by
    unfold nmK at h
    split at h
    · omega
    · omega
  unfold fig at *
  by_cases a : isF τ p
  · by_cases b : isF τ (p + 1)
    · by_cases c : isF τ (p + 2)
      · rw [if_pos a, if_pos b, if_pos c] at hf
        omega
      · rw [if_pos a, if_pos b, if_neg c]
        have := b.1
        omega
    · rw [if_pos a, if_neg b]
      have := a.1
      omega
  · rw [if_neg a] at hf
    omega
theorem nmS_ok {τ : Tp} {lo hi : Nat} {s : Ss} (h : oS τ s) : oS τ (nmS τ lo hi s) := by
  obtain ⟨h1, h2⟩ := h
  have := nmK_le τ lo hi s.2
  unfold nmS
  split
  · split
    · rename_i e
      exact ⟨by dsimp only; omega, fig_le e⟩
    · exact ⟨by dsimp only; omega, h2⟩
  · exact ⟨h1, h2⟩
theorem nmV_le {τ : Tp} {lo hi : Nat} (hl : lo ≤ hi) (s : Ss) : lo ≤ nmV τ lo hi s ∧ nmV τ lo hi s ≤ hi := by
  unfold nmV
  split
  · rename_i h
    have h := h.2
    unfold nmK at h
    split at h
    · omega
    · split at h
      · omega
      · omega
  · omega
theorem tkS_f {τ : Tp} {c : Nat} {s : Ss} (h : s.1 ≠ 0) : tkS τ c s = s := if_neg h
theorem nmS_f {τ : Tp} {lo hi : Nat} {s : Ss} (h : s.1 ≠ 0) : nmS τ lo hi s = s := if_neg h
section REA
variable {d : Nat} {τ : Tp} {s : Ss} {S : Tw} {M N : sw_Mem} {Q : Option Value → sw_Mem → Prop}
def atv (τ : Tp) (p : Nat) : Int32 := if p < τ.2 then nI (τ.1 p) else -1
theorem atv_p {p : Nat} (h : p < τ.2) : atv τ p = nI (τ.1 p) := if_pos h
theorem atv_n {p : Nat} (h : ¬ p < τ.2) : atv τ p = -1 := if_neg h
theorem z_m1_nI {a : Nat} (h : a < 2 ^ 31) : ((-1 : Int32) = nI a) = False := eq_false (fun q => by
  have := congrArg Int32.toInt q
  rw [nI_toInt h, z_m1T] at this
  omega)
theorem z_nI_m1 {a : Nat} (h : a < 2 ^ 31) : (nI a = -1) = False := eq_false (fun q => by
  have := congrArg Int32.toInt q
  rw [nI_toInt h, z_m1T] at this
  omega)
theorem k57 (hT : CTp τ M) (hO : OTp τ) {p : Nat} (hp : p < 200) : sw_Cal (d + 1) 57 [.ref 24, .int (nI p)] M Q = Q (some (.int (atv τ p))) M := by
  obtain ⟨h1, h2⟩ := hT
  obtain ⟨o1, o2⟩ := hO
  rw [c57]
  by_cases c : p < τ.2
  · have := h2 p c
    rw [atv_p c]
    simp (disch := omega) only [s57_0, s57_1, s57_4, s57_5, s57_6, s57_9, s57_12, s57_13, s57_16, s57_17, s57_18, s57_21, s57_22, z_lt_t, z_lt_f, z_le_t, z_le_f, z_lt0, z_ge0, z_cl, z_in, z_add, z_eq_f, z_ne0, z_00, z_10, z_01, z_11, z_neg1, z_nI_NONE, z_div, z_rem, z_rem2, sw_pu_s, sw_pu_n, true_and, and_true, true_or, or_true, if_true, if_false, not_true_eq_false, not_false_eq_true, h1, this]
  · rw [atv_n c]
    simp (disch := omega) only [s57_0, s57_1, s57_4, s57_5, s57_6, s57_9, s57_12, s57_13, s57_16, s57_17, s57_18, s57_21, s57_22, z_lt_t, z_lt_f, z_le_t, z_le_f, z_lt0, z_ge0, z_cl, z_in, z_add, z_eq_f, z_ne0, z_00, z_10, z_01, z_11, z_neg1, z_nI_NONE, z_div, z_rem, z_rem2, sw_pu_s, sw_pu_n, true_and, and_true, true_or, or_true, if_true, if_false, not_true_eq_false, not_false_eq_true, h1]
theorem k42 (hO : OTp τ) (p : Nat) : sw_Cal (d + 1) 42 [.int (atv τ p)] M Q = if isF τ p then Q (some (.int (nI 1))) M else Q (some (.int (nI 0))) M := by
  obtain ⟨o1, o2⟩ := hO
  rw [c42]
  by_cases c : p < τ.2
  · rw [atv_p c]
    have := o2 p c
    by_cases c1 : τ.1 p < 48
    · rw [if_neg (fun w => by have := w.2; omega)]
      simp (disch := omega) only [s42_0, s42_1, s42_3, s42_6, s42_7, s42_9, s42_12, s42_13, s42_16, s42_17, z_lt_t, z_lt_f, z_le_t, z_le_f, z_lt0, z_ge0, z_cl, z_in, z_add, z_eq_f, z_ne0, z_00, z_10, z_01, z_11, z_neg1, z_nI_NONE, z_div, z_rem, z_rem2, sw_pu_s, sw_pu_n, true_and, and_true, true_or, or_true, if_true, if_false, not_true_eq_false, not_false_eq_true]
    · by_cases c2 : 57 < τ.1 p
      · rw [if_neg (fun w => by have := w.2; omega)]
        simp (disch := omega) only [s42_0, s42_1, s42_3, s42_6, s42_7, s42_9, s42_12, s42_13, s42_16, s42_17, z_lt_t, z_lt_f, z_le_t, z_le_f, z_lt0, z_ge0, z_cl, z_in, z_add, z_eq_f, z_ne0, z_00, z_10, z_01, z_11, z_neg1, z_nI_NONE, z_div, z_rem, z_rem2, sw_pu_s, sw_pu_n, true_and, and_true, true_or, or_true, if_true, if_false, not_true_eq_false, not_false_eq_true]
      · rw [if_pos ⟨c, by omega, by omega⟩]
        simp (disch := omega) only [s42_0, s42_1, s42_3, s42_6, s42_7, s42_9, s42_12, s42_13, s42_16, s42_17, z_lt_t, z_lt_f, z_le_t, z_le_f, z_lt0, z_ge0, z_cl, z_in, z_add, z_eq_f, z_ne0, z_00, z_10, z_01, z_11, z_neg1, z_nI_NONE, z_div, z_rem, z_rem2, sw_pu_s, sw_pu_n, true_and, and_true, true_or, or_true, if_true, if_false, not_true_eq_false, not_false_eq_true]
  · rw [atv_n c, if_neg (fun w => c w.1)]
    have : ((-1 : Int32) < nI 48) = True := eq_true (by decide)
    simp (disch := omega) only [s42_0, s42_1, s42_3, s42_6, s42_7, s42_9, s42_12, s42_13, s42_16, s42_17, z_lt_t, z_lt_f, z_le_t, z_le_f, z_lt0, z_ge0, z_cl, z_in, z_add, z_eq_f, z_ne0, z_00, z_10, z_01, z_11, z_neg1, z_nI_NONE, z_div, z_rem, z_rem2, sw_pu_s, sw_pu_n, true_and, and_true, true_or, or_true, if_true, if_false, not_true_eq_false, not_false_eq_true, this]
def cR (τ : Tp) (s : Ss) (M : sw_Mem) : Prop := CTp τ M ∧ M 26 2 = nI s.2 ∧ M 26 3 = nI s.1
def stM (M : sw_Mem) (s : Ss) : sw_Mem := sw_up (sw_up M 26 2 (nI s.2)) 26 3 (nI s.1)
theorem stM_k {k : Nat} (h : k ≠ 26) : stM M s k = M k := (z_up_n _ _ h).trans (z_up_n _ _ h)
theorem stM_id (h : cR τ s M) : stM M s = M := by
  unfold stM
  rw [sw_up_id h.2.1, sw_up_id h.2.2]
theorem stM_cR (h : cR τ s M) (s' : Ss) : cR τ s' (stM M s') := ⟨CTp_c h.1 (fun k _ _ => stM_k (by omega)), by unfold stM; rw [z_up_j _ _ (by omega), z_up_s], by unfold stM; rw [z_up_s]⟩
theorem stM_f {f p : Nat} (h : cR τ s M) (hp : s.2 = p) : stM M (f, p) = sw_up M 26 3 (nI f) := by
  have e : sw_up M 26 2 (nI p) = M := sw_up_id (by rw [h.2.1, hp])
  unfold stM
  dsimp only
  rw [e]
theorem stM_p {f p : Nat} (h : cR τ s M) (hf : s.1 = f) : stM M (f, p) = sw_up M 26 2 (nI p) := by
  unfold stM
  dsimp only
  rw [sw_up_id]
  rw [z_up_j _ _ (by omega), h.2.2, hf]
theorem k40 (h : cR τ s M) (hO : OTp τ) (hs : oS τ s) {c : Nat} (hc : c < 256) : sw_Cal (d + 2) 40 [.ref 26, .int (nI c)] M Q = Q none (stM M (tkS τ c s)) := by
  have o1 := hO.1
  obtain ⟨hs1, hs2⟩ := hs
  have h57 := fun d Q => k57 (d := d) (M := M) (Q := Q) (p := s.2) h.1 hO (by omega)
  have g2 := h.2.1
  have g3 := h.2.2
  rw [c40]
  unfold tkS
  by_cases f : s.1 = 0
  · rw [if_pos f]
    rw [f] at g3
    by_cases e : s.2 < τ.2 ∧ τ.1 s.2 = c
    · rw [if_pos e, stM_p h f]
      rw [atv_p e.1, e.2] at h57
      simp (disch := omega) only [s40_0, s40_1, s40_4, s40_7, s40_8, s40_9, s40_12, s40_13, s40_16, s40_19, s40_20, s40_23, s40_24, s40_25, s40_28, s40_29, s40_30, s40_33, s40_36, s40_37, s40_38, s40_41, z_lt_t, z_lt_f, z_le_t, z_le_f, z_lt0, z_ge0, z_cl, z_in, z_add, z_eq_f, z_ne0, z_00, z_10, z_01, z_11, z_neg1, z_nI_NONE, z_div, z_rem, z_rem2, sw_pu_s, sw_pu_n, true_and, and_true, true_or, or_true, if_true, if_false, not_true_eq_false, not_false_eq_true, g2, g3, h57]
    · rw [if_neg e, stM_f h rfl]
      by_cases e1 : s.2 < τ.2
      · have := hO.2 s.2 e1
        rw [atv_p e1] at h57
        simp (disch := omega) only [s40_0, s40_1, s40_4, s40_7, s40_8, s40_9, s40_12, s40_13, s40_16, s40_19, s40_20, s40_23, s40_24, s40_25, s40_28, s40_29, s40_30, s40_33, s40_36, s40_37, s40_38, s40_41, z_lt_t, z_lt_f, z_le_t, z_le_f, z_lt0, z_ge0, z_cl, z_in, z_add, z_eq_f, z_ne0, z_00, z_10, z_01, z_11, z_neg1, z_nI_NONE, z_div, z_rem, z_rem2, sw_pu_s, sw_pu_n, true_and, and_true, true_or, or_true, if_true, if_false, not_true_eq_false, not_false_eq_true, g2, g3, h57]
      · rw [atv_n e1] at h57
        simp (disch := omega) only [s40_0, s40_1, s40_4, s40_7, s40_8, s40_9, s40_12, s40_13, s40_16, s40_19, s40_20, s40_23, s40_24, s40_25, s40_28, s40_29, s40_30, s40_33, s40_36, s40_37, s40_38, s40_41, z_lt_t, z_lt_f, z_le_t, z_le_f, z_lt0, z_ge0, z_cl, z_in, z_add, z_eq_f, z_ne0, z_00, z_10, z_01, z_11, z_neg1, z_nI_NONE, z_div, z_rem, z_rem2, sw_pu_s, sw_pu_n, true_and, and_true, true_or, or_true, if_true, if_false, not_true_eq_false, not_false_eq_true, g2, g3, h57, z_m1_nI]
  · rw [if_neg f, stM_id h]
    simp (disch := omega) only [s40_0, s40_1, s40_4, s40_7, s40_8, s40_9, s40_12, s40_13, s40_16, s40_19, s40_20, s40_23, s40_24, s40_25, s40_28, s40_29, s40_30, s40_33, s40_36, s40_37, s40_38, s40_41, z_lt_t, z_lt_f, z_le_t, z_le_f, z_lt0, z_ge0, z_cl, z_in, z_add, z_eq_f, z_ne0, z_00, z_10, z_01, z_11, z_neg1, z_nI_NONE, z_div, z_rem, z_rem2, sw_pu_s, sw_pu_n, true_and, and_true, true_or, or_true, if_true, if_false, not_true_eq_false, not_false_eq_true, g3]
set_option maxHeartbeats 2000000 in
theorem k41 (h : cR τ s M) (hO : OTp τ) (hs : oS τ s) {lo hi : Nat} (hl : lo < 100) (hh : hi < 100) : sw_Cal (d + 2) 41 [.ref 26, .int (nI lo), .int (nI hi)] M Q = Q (some (.int (nI (nmV τ lo hi s)))) (stM M (nmS τ lo hi s)) := by
  have o1 := hO.1
  obtain ⟨hs1, hs2⟩ := hs
  have h57 := fun p d Q (hp : p < 200) => k57 (d := d) (M := M) (Q := Q) h.1 hO hp
  have h42 := fun d M Q p => k42 (d := d) (M := M) (Q := Q) hO p
  have g2 := h.2.1
  have g3 := h.2.2
  rw [c41]
  by_cases f : s.1 = 0
  case neg =>
    have e1 : nmS τ lo hi s = s := nmS_f f
    have e2 : nmV τ lo hi s = lo := if_neg (fun w => f w.1)
    rw [e1, e2, stM_id h]
    simp (disch := omega) only [s41_0, s41_1, s41_4, s41_7, s41_8, s41_9, s41_10, s41_11, s41_12, s41_14, s41_15, s41_16, s41_19, s41_20, s41_23, s41_24, s41_27, s41_28, s41_29, s41_32, s41_35, s41_38, s41_40, s41_42, s41_43, s41_44, s41_47, s41_48, s41_51, s41_52, s41_53, s41_56, s41_57, s41_59, s41_60, s41_62, s41_65, s41_68, s41_69, s41_72, s41_73, s41_74, s41_77, s41_78, s41_79, s41_82, s41_83, s41_84, s41_86, s41_87, s41_90, s41_92, s41_93, s41_96, s41_97, s41_98, s41_101, s41_102, s41_103, s41_104, s41_105, s41_108, s41_109, s41_110, s41_113, s41_115, z_lt_t, z_lt_f, z_le_t, z_le_f, z_lt0, z_ge0, z_cl, z_in, z_add, z_eq_f, z_ne0, z_00, z_10, z_01, z_11, z_neg1, z_nI_NONE, z_div, z_rem, z_rem2, sw_pu_s, sw_pu_n, true_and, and_true, true_or, or_true, if_true, if_false, not_true_eq_false, not_false_eq_true, g3]
  rw [f] at g3
  generalize hp : s.2 = p at *
  have fin : ∀ (v n : Nat), fig τ p = n → n ≤ 3 → v < 1000 → (n = 1 ∨ n = 2 → vlu τ p = v) → sw_WP (d + 1) 41 68 [.ref 26, .int (nI lo), .int (nI hi), .int (nI n), .int (nI v)] [] M Q = Q (some (.int (nI (nmV τ lo hi s)))) (stM M (nmS τ lo hi s)) := by
    intro v n hn hn3 hv hvl
    by_cases c1 : n = 0 ∨ n = 3
    · have ek : nmK τ lo hi p = 1 := by unfold nmK; rw [hn, if_pos c1]
      have e1 : nmS τ lo hi s = (1, p) := by unfold nmS; rw [if_pos f, hp, ek, if_neg (by decide)]
      have e2 : nmV τ lo hi s = lo := by unfold nmV; rw [hp, ek]; exact if_neg (fun w => absurd w.2 (by decide))
      rw [e1, e2, stM_f h hp]
      rcases c1 with rfl | rfl
      · simp (disch := omega) only [s41_68, s41_69, s41_72, s41_73, s41_74, s41_77, s41_78, s41_79, s41_82, s41_83, s41_84, s41_86, s41_87, s41_90, s41_92, s41_93, s41_96, s41_97, s41_98, s41_101, s41_102, s41_103, s41_104, s41_105, s41_108, s41_109, s41_110, s41_113, s41_115, z_lt_t, z_lt_f, z_le_t, z_le_f, z_lt0, z_ge0, z_cl, z_in, z_add, z_eq_f, z_ne0, z_00, z_10, z_01, z_11, z_neg1, z_nI_NONE, z_div, z_rem, z_rem2, sw_pu_s, sw_pu_n, true_and, and_true, true_or, or_true, if_true, if_false, not_true_eq_false, not_false_eq_true]
      · simp (disch := omega) only [s41_68, s41_69, s41_72, s41_73, s41_74, s41_77, s41_78, s41_79, s41_82, s41_83, s41_84, s41_86, s41_87, s41_90, s41_92, s41_93, s41_96, s41_97, s41_98, s41_101, s41_102, s41_103, s41_104, s41_105, s41_108, s41_109, s41_110, s41_113, s41_115, z_lt_t, z_lt_f, z_le_t, z_le_f, z_lt0, z_ge0, z_cl, z_in, z_add, z_eq_f, z_ne0, z_00, z_10, z_01, z_11, z_neg1, z_nI_NONE, z_div, z_rem, z_rem2, sw_pu_s, sw_pu_n, true_and, and_true, true_or, or_true, if_true, if_false, not_true_eq_false, not_false_eq_true]
    · have hvl := hvl (by omega)
      by_cases c2 : v < lo ∨ hi < v
      · have ek : nmK τ lo hi p = 2 := by unfold nmK; rw [hn, if_neg c1, hvl, if_pos c2]
        have e1 : nmS τ lo hi s = (2, p) := by unfold nmS; rw [if_pos f, hp, ek, if_neg (by decide)]
        have e2 : nmV τ lo hi s = lo := by unfold nmV; rw [hp, ek]; exact if_neg (fun w => absurd w.2 (by decide))
        rw [e1, e2, stM_f h hp]
        by_cases c3 : v < lo
        · simp (disch := omega) only [s41_68, s41_69, s41_72, s41_73, s41_74, s41_77, s41_78, s41_79, s41_82, s41_83, s41_84, s41_86, s41_87, s41_90, s41_92, s41_93, s41_96, s41_97, s41_98, s41_101, s41_102, s41_103, s41_104, s41_105, s41_108, s41_109, s41_110, s41_113, s41_115, z_lt_t, z_lt_f, z_le_t, z_le_f, z_lt0, z_ge0, z_cl, z_in, z_add, z_eq_f, z_ne0, z_00, z_10, z_01, z_11, z_neg1, z_nI_NONE, z_div, z_rem, z_rem2, sw_pu_s, sw_pu_n, true_and, and_true, true_or, or_true, if_true, if_false, not_true_eq_false, not_false_eq_true]
        · simp (disch := omega) only [s41_68, s41_69, s41_72, s41_73, s41_74, s41_77, s41_78, s41_79, s41_82, s41_83, s41_84, s41_86, s41_87, s41_90, s41_92, s41_93, s41_96, s41_97, s41_98, s41_101, s41_102, s41_103, s41_104, s41_105, s41_108, s41_109, s41_110, s41_113, s41_115, z_lt_t, z_lt_f, z_le_t, z_le_f, z_lt0, z_ge0, z_cl, z_in, z_add, z_eq_f, z_ne0, z_00, z_10, z_01, z_11, z_neg1, z_nI_NONE, z_div, z_rem, z_rem2, sw_pu_s, sw_pu_n, true_and, and_true, true_or, or_true, if_true, if_false, not_true_eq_false, not_false_eq_true]
      · have ek : nmK τ lo hi p = 0 := by unfold nmK; rw [hn, if_neg c1, hvl, if_neg c2]
        have e1 : nmS τ lo hi s = (0, p + n) := by unfold nmS; rw [if_pos f, hp, ek, if_pos rfl, hn]
        have e2 : nmV τ lo hi s = v := by unfold nmV; rw [hp, ek, if_pos ⟨f, rfl⟩, hvl]
        rw [e1, e2, stM_p h f]
        simp (disch := omega) only [s41_68, s41_69, s41_72, s41_73, s41_74, s41_77, s41_78, s41_79, s41_82, s41_83, s41_84, s41_86, s41_87, s41_90, s41_92, s41_93, s41_96, s41_97, s41_98, s41_101, s41_102, s41_103, s41_104, s41_105, s41_108, s41_109, s41_110, s41_113, s41_115, z_lt_t, z_lt_f, z_le_t, z_le_f, z_lt0, z_ge0, z_cl, z_in, z_add, z_eq_f, z_ne0, z_00, z_10, z_01, z_11, z_neg1, z_nI_NONE, z_div, z_rem, z_rem2, sw_pu_s, sw_pu_n, true_and, and_true, true_or, or_true, if_true, if_false, not_true_eq_false, not_false_eq_true, g2]
  by_cases a : isF τ p
  · have a1 := a.2
    have p57 := fun d Q => h57 p d Q (by omega)
    have p42 := fun d M Q => (h42 d M Q p).trans (if_pos a)
    rw [atv_p a.1] at p57 p42
    have q57 := fun d Q => h57 (p + 1) d Q (by omega)
    by_cases b : isF τ (p + 1)
    · have b1 := b.2
      have q42 := fun d M Q => (h42 d M Q (p + 1)).trans (if_pos b)
      rw [atv_p b.1] at q57 q42
      have r57 := fun d Q => h57 (p + 2) d Q (by have := b.1; omega)
      by_cases c : isF τ (p + 2)
      · have c1 := c.2
        have r42 := fun d M Q => (h42 d M Q (p + 2)).trans (if_pos c)
        rw [atv_p c.1] at r57 r42
        have := fin (10 * (10 * (τ.1 p - 48) + τ.1 (p + 1) - 48) + τ.1 (p + 2) - 48) 3 (by unfold fig; rw [if_pos a, if_pos b, if_pos c]) (by omega) (by omega) (by omega)
        rw [← this]
        simp (disch := omega) only [s41_0, s41_1, s41_4, s41_7, s41_8, s41_9, s41_10, s41_11, s41_12, s41_14, s41_15, s41_16, s41_19, s41_20, s41_23, s41_24, s41_27, s41_28, s41_29, s41_32, s41_35, s41_38, s41_40, s41_42, s41_43, s41_44, s41_47, s41_48, s41_51, s41_52, s41_53, s41_56, s41_57, s41_59, s41_60, s41_62, s41_65, z_lt_t, z_lt_f, z_le_t, z_le_f, z_lt0, z_ge0, z_cl, z_in, z_add, z_eq_f, z_ne0, z_00, z_10, z_01, z_11, z_neg1, z_nI_NONE, z_div, z_rem, z_rem2, sw_pu_s, sw_pu_n, true_and, and_true, true_or, or_true, if_true, if_false, not_true_eq_false, not_false_eq_true, z_mul, z_sub, g2, g3, p57, p42, q57, q42, r57, r42, Nat.add_zero, Nat.mul_zero, Nat.zero_add]
      · have r42 := fun d M Q => (h42 d M Q (p + 2)).trans (if_neg c)
        have := fin (10 * (τ.1 p - 48) + τ.1 (p + 1) - 48) 2 (by unfold fig; rw [if_pos a, if_pos b, if_neg c]) (by omega) (by omega) (fun _ => by unfold vlu; rw [if_pos b]; omega)
        rw [← this]
        simp (disch := omega) only [s41_0, s41_1, s41_4, s41_7, s41_8, s41_9, s41_10, s41_11, s41_12, s41_14, s41_15, s41_16, s41_19, s41_20, s41_23, s41_24, s41_27, s41_28, s41_29, s41_32, s41_35, s41_38, s41_40, s41_42, s41_43, s41_44, s41_47, s41_48, s41_51, s41_52, s41_53, s41_56, s41_57, s41_59, s41_60, s41_62, s41_65, z_lt_t, z_lt_f, z_le_t, z_le_f, z_lt0, z_ge0, z_cl, z_in, z_add, z_eq_f, z_ne0, z_00, z_10, z_01, z_11, z_neg1, z_nI_NONE, z_div, z_rem, z_rem2, sw_pu_s, sw_pu_n, true_and, and_true, true_or, or_true, if_true, if_false, not_true_eq_false, not_false_eq_true, z_mul, z_sub, g2, g3, p57, p42, q57, q42, r57, r42, Nat.add_zero, Nat.mul_zero, Nat.zero_add]
    · have q42 := fun d M Q => (h42 d M Q (p + 1)).trans (if_neg b)
      have := fin (τ.1 p - 48) 1 (by unfold fig; rw [if_pos a, if_neg b]) (by omega) (by omega) (fun _ => by unfold vlu; rw [if_neg b])
      rw [← this]
      simp (disch := omega) only [s41_0, s41_1, s41_4, s41_7, s41_8, s41_9, s41_10, s41_11, s41_12, s41_14, s41_15, s41_16, s41_19, s41_20, s41_23, s41_24, s41_27, s41_28, s41_29, s41_32, s41_35, s41_38, s41_40, s41_42, s41_43, s41_44, s41_47, s41_48, s41_51, s41_52, s41_53, s41_56, s41_57, s41_59, s41_60, s41_62, s41_65, z_lt_t, z_lt_f, z_le_t, z_le_f, z_lt0, z_ge0, z_cl, z_in, z_add, z_eq_f, z_ne0, z_00, z_10, z_01, z_11, z_neg1, z_nI_NONE, z_div, z_rem, z_rem2, sw_pu_s, sw_pu_n, true_and, and_true, true_or, or_true, if_true, if_false, not_true_eq_false, not_false_eq_true, z_mul, z_sub, g2, g3, p57, p42, q57, q42, Nat.add_zero, Nat.mul_zero, Nat.zero_add]
  · have p57 := fun d Q => h57 p d Q (by omega)
    have p42 := fun d M Q => (h42 d M Q p).trans (if_neg a)
    have := fin 0 0 (by unfold fig; rw [if_neg a]) (by omega) (by omega) (by omega)
    rw [← this]
    simp (disch := omega) only [s41_0, s41_1, s41_4, s41_7, s41_8, s41_9, s41_10, s41_11, s41_12, s41_14, s41_15, s41_16, s41_19, s41_20, s41_23, s41_24, s41_27, s41_28, s41_29, s41_32, s41_35, s41_38, s41_40, s41_42, s41_43, s41_44, s41_47, s41_48, s41_51, s41_52, s41_53, s41_56, s41_57, s41_59, s41_60, s41_62, s41_65, z_lt_t, z_lt_f, z_le_t, z_le_f, z_lt0, z_ge0, z_cl, z_in, z_add, z_eq_f, z_ne0, z_00, z_10, z_01, z_11, z_neg1, z_nI_NONE, z_div, z_rem, z_rem2, sw_pu_s, sw_pu_n, true_and, and_true, true_or, or_true, if_true, if_false, not_true_eq_false, not_false_eq_true, g2, g3, p57, p42, Nat.add_zero]
end REA
