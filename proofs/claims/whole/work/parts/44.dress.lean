/-! which stone it would be best to dress -/
abbrev hs (T : Tw) (s : Nat) : Prop := (s < 4 ∧ s < T 1) ∨ (4 ≤ s ∧ s - 4 < T 0)
def stP (s : Nat) : Nat := if s < 4 then 29 + s else 5 + s
def drT (T : Tw) (s : Nat) : Tw := upT T (stP s) 9
theorem z_szv_gt {a g : Nat} (ha : a < 2 ^ 30) (hg : g < 2 ^ 30) : (szv a < nI g) = (a < g + 1) := by
  cases a with
  | zero =>
    rw [szv_0, z_ltI (by omega), z_m1T]
    exact propext ⟨fun _ => by omega, fun _ => by omega⟩
  | succ a =>
    rw [szv_s, z_lt (by omega) (by omega)]
    exact propext ⟨fun _ => by omega, fun _ => by omega⟩
theorem z_szv_m {a : Nat} (ha : a < 2 ^ 30) : (szv a < -1) = False := by
  refine eq_false (fun h => ?_)
  have h := Int32.lt_iff_toInt_lt.mp h
  rw [z_m1T] at h
  cases a with
  | zero =>
    rw [szv_0, z_m1T] at h
    omega
  | succ a =>
    rw [szv_s, nI_toInt (by omega)] at h
    omega
theorem z_szv_ge {a g : Nat} (ha : a < 2 ^ 30) (hg : g < 2 ^ 30) : (nI g ≤ szv a) = (g + 1 ≤ a) := by
  rw [← Int32.not_lt, z_szv_gt ha hg]
  exact propext ⟨fun _ => by omega, fun _ => by omega⟩
theorem z_szv_mt {a : Nat} (ha : a < 2 ^ 30) : (-1 ≤ szv a) = True := by
  rw [← Int32.not_lt, z_szv_m ha, not_false_eq_true]
def bdS (T : Tw) (n s : Nat) (p : Nat × Nat) : Nat × Nat := if hs T s ∧ p.2 < gdT (drT T s) n + 1 then (s, gdT (drT T s) n + 1) else p
def bdF (T : Tw) (n : Nat) : Nat → Nat → Nat × Nat → Nat × Nat
  | 0, _, p => p
  | k + 1, s, p => bdF T n k (s + 1) (bdS T n s p)
def bdI (T : Tw) (n : Nat) (p : Nat × Nat) : Prop := p.1 < 8 ∧ (p.2 = 0 ∨ (hs T p.1 ∧ p.2 = gdT (drT T p.1) n + 1))
theorem bdS_I {T : Tw} {n s : Nat} (hs8 : s < 8) {p : Nat × Nat} (h : bdI T n p) : bdI T n (bdS T n s p) := by
  unfold bdS
  split
  · rename_i c
    exact ⟨hs8, Or.inr ⟨c.1, rfl⟩⟩
  · exact h
theorem bdF_I {T : Tw} {n : Nat} : ∀ k s p, s + k = 8 → bdI T n p → bdI T n (bdF T n k s p) := by
  intro k
  induction k with
  | zero => intro s p _ h; exact h
  | succ k ih => intro s p hk h; exact ih (s + 1) _ (by omega) (bdS_I (by omega) h)
theorem bdS_p {T : Tw} {n s : Nat} {p : Nat × Nat} (h : 0 < p.2 ∨ hs T s) : 0 < (bdS T n s p).2 := by
  unfold bdS
  split
  · exact Nat.succ_pos _
  · rename_i c
    rcases h with h | h
    · exact h
    · rcases Nat.eq_zero_or_pos p.2 with q | q
      · exact absurd ⟨h, by omega⟩ c
      · exact q
theorem bdF_p {T : Tw} {n : Nat} (h0 : 0 < T 0) (p : Nat × Nat) : 0 < (bdF T n 8 0 p).2 := by
  show 0 < (bdS T n 7 (bdS T n 6 (bdS T n 5 (bdS T n 4 (bdS T n 3 (bdS T n 2 (bdS T n 1 (bdS T n 0 p)))))))).2
  exact bdS_p (Or.inl (bdS_p (Or.inl (bdS_p (Or.inl (bdS_p (Or.inr (Or.inr ⟨Nat.le_refl 4, by omega⟩))))))))
section DRS
variable {T : Tw} {I : Nat → Tw} {π : Ps} {ρ : Rw} {τ : Tp} {ft sv : Int32} {θ : Tc} {M N : sw_Mem} {d c m v : Nat} {as : List Value} {Q : Option Value → sw_Mem → Prop}
theorem k65n (hV : IsV M v T) (hW : WF T) {s : Nat} (h : s < 8) : sw_Cal (d + 2) 65 [.ref v, .int (nI s)] M Q = if hs T s then Q (some (.int (nI 1))) M else Q (some (.int (nI 0))) M := by
  by_cases c : s < 4
  · rw [k65a hV hW c]
    by_cases e : s < T 1
    · rw [if_pos e, if_pos (Or.inl ⟨c, e⟩)]
    · rw [if_neg e, if_neg (by omega)]
  · obtain ⟨b, rfl⟩ : ∃ b, s = 4 + b := ⟨s - 4, by omega⟩
    rw [k65b hV hW (by omega)]
    by_cases e : b < T 0
    · rw [if_pos e, if_pos (by omega)]
    · rw [if_neg e, if_neg (by omega)]
theorem IsV_st (hV : IsV M v T) (h0 : T 0 ≤ 4) (h1 : T 1 ≤ 4) {s : Nat} (h : hs T s) : IsV (sw_up M (v + 2) s (nI 9)) v (drT T s) := by
  unfold drT stP
  rcases h with ⟨a, b⟩ | ⟨a, b⟩
  · rw [if_pos a]
    exact IsV_fr hV h0 h1 b 9
  · rw [if_neg (by omega), show 5 + s = 9 + (s - 4) by omega]
    have := IsV_fb hV h0 h1 b 9
    rw [show 4 + (s - 4) = s by omega] at this
    exact this
theorem stP_r {s : Nat} (h : s < 8) : (9 ≤ stP s ∧ stP s < 13) ∨ (29 ≤ stP s ∧ stP s < 33) := by
  unfold stP
  split <;> omega
theorem drT_o {s i : Nat} (h : s < 8) (hi : i < 9 ∨ (13 ≤ i ∧ i < 29) ∨ 33 ≤ i) : drT T s i = T i := upT_n _ _ (by have := stP_r h; omega)
theorem WF_dr (hW : WF T) {s : Nat} (h : s < 8) : WF (drT T s) := WF_fu hW (stP_r h) (Nat.le_refl 9)
theorem FB_dr {F : Nat} (hF : FB T F) (w0 : T 0 ≤ 4) {s : Nat} (h : s < 8) : FB (drT T s) F := by
  intro b hb
  rw [drT_o h (by omega)] at hb
  rw [drT_o h (by omega)]
  exact hF b hb
theorem k171n (hM : IsM N 0 T) (hW : WF T) {s : Nat} (h : s < 8) : sw_Cal (d + 3) 171 [.ref 0, .int (nI s)] N Q = if hs T s then Q (some (.int (nI (stP s)))) N else Q (some (.int (-1000000))) N := by
  have w0 := hW.1
  have w1 := hW.2.1
  have h160 := fun d Q => k160 (d := d) (Q := Q) hM hW (nI s)
  have h161 := fun d x Q => k161 (d := d) (Q := Q) hM hW x
  rw [c171]
  unfold stP
  by_cases c : s < 4
  · have e : (nI s - nI 4).toInt = (s : Int) - 4 := z_subI (by omega) (by omega)
    by_cases e1 : s < T 1
    · rw [if_pos (by omega), if_pos c]
      simp (disch := omega) only [s171_0, s171_1, s171_2, s171_5, s171_8, s171_10, s171_11, s171_12, s171_15, s171_16, s171_17, s171_18, s171_19, s171_22, s171_25, s171_27, s171_28, s171_29, s171_30, s171_31, s171_34, s171_36, z_lt_t, z_lt_f, z_le_t, z_le_f, z_lt0, z_ge0, z_cl, z_in, z_add, z_eq_f, z_ne0, z_00, z_10, z_01, z_11, z_neg1, z_nI_NONE, z_div, z_rem, z_rem2, sw_pu_s, sw_pu_n, true_and, and_true, true_or, or_true, if_true, if_false, not_true_eq_false, not_false_eq_true, h160, z_ibt]
    · rw [if_neg (by omega)]
      have b2 : sw_ib (nI s - nI 4) (T 0) = False := by
        rw [z_ibI, e]
        exact eq_false (by omega)
      simp (disch := omega) only [s171_0, s171_1, s171_2, s171_5, s171_8, s171_10, s171_11, s171_12, s171_15, s171_16, s171_17, s171_18, s171_19, s171_22, s171_25, s171_27, s171_28, s171_29, s171_30, s171_31, s171_34, s171_36, z_lt_t, z_lt_f, z_le_t, z_le_f, z_lt0, z_ge0, z_cl, z_in, z_add, z_eq_f, z_ne0, z_00, z_10, z_01, z_11, z_neg1, z_nI_NONE, z_div, z_rem, z_rem2, sw_pu_s, sw_pu_n, true_and, and_true, true_or, or_true, if_true, if_false, not_true_eq_false, not_false_eq_true, h160, h161, z_ibf, b2]
  · by_cases e1 : s - 4 < T 0
    · rw [if_pos (by omega), if_neg c]
      simp (disch := omega) only [s171_0, s171_1, s171_2, s171_5, s171_8, s171_10, s171_11, s171_12, s171_15, s171_16, s171_17, s171_18, s171_19, s171_22, s171_25, s171_27, s171_28, s171_29, s171_30, s171_31, s171_34, s171_36, z_lt_t, z_lt_f, z_le_t, z_le_f, z_lt0, z_ge0, z_cl, z_in, z_add, z_eq_f, z_ne0, z_00, z_10, z_01, z_11, z_neg1, z_nI_NONE, z_div, z_rem, z_rem2, sw_pu_s, sw_pu_n, true_and, and_true, true_or, or_true, if_true, if_false, not_true_eq_false, not_false_eq_true, h160, h161, z_ibf, z_sub, z_ibt]
      rw [show 9 + s - 4 = 5 + s by omega]
    · rw [if_neg (by omega)]
      simp (disch := omega) only [s171_0, s171_1, s171_2, s171_5, s171_8, s171_10, s171_11, s171_12, s171_15, s171_16, s171_17, s171_18, s171_19, s171_22, s171_25, s171_27, s171_28, s171_29, s171_30, s171_31, s171_34, s171_36, z_lt_t, z_lt_f, z_le_t, z_le_f, z_lt0, z_ge0, z_cl, z_in, z_add, z_eq_f, z_ne0, z_00, z_10, z_01, z_11, z_neg1, z_nI_NONE, z_div, z_rem, z_rem2, sw_pu_s, sw_pu_n, true_and, and_true, true_or, or_true, if_true, if_false, not_true_eq_false, not_false_eq_true, h160, h161, z_ibf, z_sub]
theorem k13 (hV : IsV M 34 T) (hT : OKT T) {n s : Nat} (hn : n ≤ 60) (h8 : s < 8) (h : hs T s) : ∃ M', sC M M' ∧ ∀ Q, sw_Cal (d + 6) 13 [.ref 82, .ref 34, .int (nI s), .int (nI n)] M Q = Q (some (.int (nI (gdT (drT T s) n)))) M' := by
  have h9 := hT.2.2.1
  have hv := hV.1
  have w0 := hT.1.1
  have w1 := hT.1.2.1
  have h65 := fun d Q => (k65n (d := d) (Q := Q) hV hT.1 h8).trans (if_pos h)
  have hB := bcM_V (M := M) (v := 83) hV kd_v.1 w0 w1 (by omega)
  have hB2 := IsV_st hB w0 w1 h
  have h59 := fun d Q => k59 (d := d) (M := M) (Q := Q) kd_v.1 kd34
  obtain ⟨M', a1, a2, a3⟩ := k71 (d := d) (n := n) hB2 (WF_dr hT.1 h8) (FB_dr hT.2.1 w0 h8) (by omega) (by rw [drT_o h8 (by omega)]; omega)
  refine ⟨M', ((sC.off (bcM_off M 83 34) (by omega)).up (by omega)).tr (sC.off a2 (by omega)), fun Q => ?_⟩
  rw [c13]
  simp (disch := omega) only [s13_0, s13_1, s13_2, s13_5, s13_8, s13_9, s13_10, s13_11, s13_14, s13_15, s13_18, s13_19, s13_22, s13_25, s13_26, s13_28, s13_29, s13_30, s13_33, s13_34, s13_37, z_lt_t, z_lt_f, z_le_t, z_le_f, z_lt0, z_ge0, z_cl, z_in, z_add, z_eq_f, z_ne0, z_00, z_10, z_01, z_11, z_neg1, z_nI_NONE, z_div, z_rem, z_rem2, sw_pu_s, sw_pu_n, true_and, and_true, true_or, or_true, if_true, if_false, not_true_eq_false, not_false_eq_true, h65, h59, a3, kd_v.1, sw_vk2 kd_v.1, sw_vn2 kd_v.1]
theorem k13n (hV : IsV M 34 T) (hT : OKT T) {s : Nat} (x : Int32) (h8 : s < 8) (h : ¬ hs T s) : sw_Cal (d + 3) 13 [.ref 82, .ref 34, .int (nI s), .int x] M Q = Q (some (.int (-1))) M := by
  have hv := hV.1
  have h65 := fun d Q => (k65n (d := d) (Q := Q) hV hT.1 h8).trans (if_neg h)
  rw [c13]
  simp (disch := omega) only [s13_0, s13_1, s13_2, s13_5, s13_8, s13_9, s13_10, s13_11, s13_14, s13_15, s13_18, s13_19, s13_22, s13_25, s13_26, s13_28, s13_29, s13_30, s13_33, s13_34, s13_37, z_lt_t, z_lt_f, z_le_t, z_le_f, z_lt0, z_ge0, z_cl, z_in, z_add, z_eq_f, z_ne0, z_00, z_10, z_01, z_11, z_neg1, z_nI_NONE, z_div, z_rem, z_rem2, sw_pu_s, sw_pu_n, true_and, and_true, true_or, or_true, if_true, if_false, not_true_eq_false, not_false_eq_true, h65, hv]
theorem k12L (hT : OKT T) {n : Nat} (hn : n ≤ 60) : ∀ k s (M : sw_Mem) (p : Nat × Nat) (x : Value), s + k = 8 → IsV M 34 T → bdI T n p → ∃ M', sC M M' ∧ ∀ Q, sw_WP (d + 6) 12 8 [.ref 82, .ref 34, .int (nI n), .int (nI p.1), .int (szv p.2), .int (nI s), x] [] M Q = Q (some (.int (nI (bdF T n k s p).1))) M' := by
  have h9 := hT.2.2.1
  intro k
  induction k with
  | zero =>
    intro s M p x h hV hp
    obtain rfl : s = 8 := by omega
    refine ⟨M, sC.rf, fun Q => ?_⟩
    refine (s12_8 ..).trans ?_
    simp (disch := omega) only [s12_10, s12_12, s12_15, s12_16, s12_17, s12_19, s12_20, s12_23, s12_25, s12_27, s12_29, s12_32, s12_34, s12_35, s12_37, s12_39, s12_42, s12_45, s12_46, z_lt_t, z_lt_f, z_le_t, z_le_f, z_lt0, z_ge0, z_cl, z_in, z_add, z_eq_f, z_ne0, z_00, z_10, z_01, z_11, z_neg1, z_nI_NONE, z_div, z_rem, z_rem2, sw_pu_s, sw_pu_n, true_and, and_true, true_or, or_true, if_true, if_false, not_true_eq_false, not_false_eq_true]
    rfl
  | succ k ih =>
    intro s M p x h hV hp
    have hp2 : p.2 < 2 ^ 30 := by
      rcases hp.2 with q | q
      · omega
      · have := gdT_le n (drT T p.1) (WF_dr hT.1 hp.1) (by rw [drT_o hp.1 (by omega)]; omega)
        omega
    by_cases c : hs T s
    · obtain ⟨M1, a1, a2⟩ := k13 (d := d) hV hT hn (show s < 8 by omega) c
      have hg := gdT_le n (drT T s) (WF_dr hT.1 (by omega)) (by rw [drT_o (show s < 8 by omega) (by omega)]; omega)
      have hV1 : IsV M1 34 T := IsV_c hV (fun k _ _ => a1 k (by omega))
      obtain ⟨M2, b1, b2⟩ := ih (s + 1) M1 (bdS T n s p) (.int (nI (gdT (drT T s) n))) (by omega) hV1 (bdS_I (by omega) hp)
      refine ⟨M2, a1.tr b1, fun Q => ?_⟩
      show _ = Q (some (.int (nI (bdF T n k (s + 1) (bdS T n s p)).1))) M2
      rw [← b2 Q]
      refine (s12_8 ..).trans ?_
      unfold bdS
      by_cases e : p.2 < gdT (drT T s) n + 1
      · simp (disch := omega) only [s12_10, s12_12, s12_15, s12_16, s12_17, s12_19, s12_20, s12_23, s12_25, s12_27, s12_29, s12_32, s12_34, s12_35, s12_37, s12_39, s12_42, z_lt_t, z_lt_f, z_le_t, z_le_f, z_lt0, z_ge0, z_cl, z_in, z_add, z_eq_f, z_ne0, z_00, z_10, z_01, z_11, z_neg1, z_nI_NONE, z_div, z_rem, z_rem2, sw_pu_s, sw_pu_n, true_and, and_true, true_or, or_true, if_true, if_false, not_true_eq_false, not_false_eq_true, a2, z_szv_ge, show ¬ gdT (drT T s) n + 1 ≤ p.2 by omega, e, c, and_self, szv_s]
      · simp (disch := omega) only [s12_10, s12_12, s12_15, s12_16, s12_17, s12_19, s12_20, s12_23, s12_25, s12_27, s12_29, s12_32, s12_34, s12_35, s12_37, s12_39, s12_42, z_lt_t, z_lt_f, z_le_t, z_le_f, z_lt0, z_ge0, z_cl, z_in, z_add, z_eq_f, z_ne0, z_00, z_10, z_01, z_11, z_neg1, z_nI_NONE, z_div, z_rem, z_rem2, sw_pu_s, sw_pu_n, true_and, and_true, true_or, or_true, if_true, if_false, not_true_eq_false, not_false_eq_true, a2, z_szv_ge, show gdT (drT T s) n + 1 ≤ p.2 by omega, e, and_false]
    · obtain ⟨M2, b1, b2⟩ := ih (s + 1) M (bdS T n s p) (.int (-1)) (by omega) hV (bdS_I (by omega) hp)
      refine ⟨M2, b1, fun Q => ?_⟩
      have h13 := fun d Q => k13n (d := d) (Q := Q) hV hT (nI n) (show s < 8 by omega) c
      show _ = Q (some (.int (nI (bdF T n k (s + 1) (bdS T n s p)).1))) M2
      rw [← b2 Q]
      refine (s12_8 ..).trans ?_
      unfold bdS
      simp (disch := omega) only [s12_10, s12_12, s12_15, s12_16, s12_17, s12_19, s12_20, s12_23, s12_25, s12_27, s12_29, s12_32, s12_34, s12_35, s12_37, s12_39, s12_42, z_lt_t, z_lt_f, z_le_t, z_le_f, z_lt0, z_ge0, z_cl, z_in, z_add, z_eq_f, z_ne0, z_00, z_10, z_01, z_11, z_neg1, z_nI_NONE, z_div, z_rem, z_rem2, sw_pu_s, sw_pu_n, true_and, and_true, true_or, or_true, if_true, if_false, not_true_eq_false, not_false_eq_true, h13, z_szv_mt, c, false_and]
theorem k194L (hT : OKT T) (hL : 0 < T 2) {n : Nat} (hn : n ≤ 60) (w : Int32) : ∀ k s (N : sw_Mem) (p : Nat × Nat) (x y : Value), s + k = 8 → IsM N 0 T → bdI T n p → ∃ N', sM N N' ∧ ∀ Q, sw_WP (d + 6) 194 44 [.ref 0, .int (nI n), .int w, .int (if p.2 = 0 then -1000000 else nI p.1), .int (szv p.2), .int (nI s), x, y] [] N Q = (if w = 0 then Q (some (.int (if (bdF T n k s p).2 = 0 then -1000000 else nI (bdF T n k s p).1))) N' else Q (some (.int (szv (bdF T n k s p).2))) N') := by
  have h9 := hT.2.2.1
  have w0 := hT.1.1
  have w1 := hT.1.2.1
  intro k
  induction k with
  | zero =>
    intro s N p x y h hM hp
    obtain rfl : s = 8 := by omega
    refine ⟨N, sM.rf, fun Q => ?_⟩
    refine (s194_44 ..).trans ?_
    by_cases c : w = 0
    · rw [if_pos c]
      simp (disch := omega) only [s194_46, s194_48, s194_51, s194_52, s194_54, s194_57, s194_59, s194_61, s194_63, s194_66, s194_67, s194_70, s194_71, s194_74, s194_77, s194_79, s194_80, s194_82, s194_83, s194_84, s194_87, s194_88, s194_91, s194_93, s194_95, s194_97, s194_100, s194_102, s194_105, s194_106, s194_107, s194_109, s194_111, s194_114, s194_116, s194_119, s194_121, s194_123, s194_126, s194_129, s194_130, s194_133, s194_134, s194_137, s194_139, z_lt_t, z_lt_f, z_le_t, z_le_f, z_lt0, z_ge0, z_cl, z_in, z_add, z_eq_f, z_ne0, z_00, z_10, z_01, z_11, z_neg1, z_nI_NONE, z_div, z_rem, z_rem2, sw_pu_s, sw_pu_n, true_and, and_true, true_or, or_true, if_true, if_false, not_true_eq_false, not_false_eq_true, c]
      rfl
    · rw [if_neg c]
      simp (disch := omega) only [s194_46, s194_48, s194_51, s194_52, s194_54, s194_57, s194_59, s194_61, s194_63, s194_66, s194_67, s194_70, s194_71, s194_74, s194_77, s194_79, s194_80, s194_82, s194_83, s194_84, s194_87, s194_88, s194_91, s194_93, s194_95, s194_97, s194_100, s194_102, s194_105, s194_106, s194_107, s194_109, s194_111, s194_114, s194_116, s194_119, s194_121, s194_123, s194_126, s194_129, s194_130, s194_133, s194_134, s194_137, s194_139, z_lt_t, z_lt_f, z_le_t, z_le_f, z_lt0, z_ge0, z_cl, z_in, z_add, z_eq_f, z_ne0, z_00, z_10, z_01, z_11, z_neg1, z_nI_NONE, z_div, z_rem, z_rem2, sw_pu_s, sw_pu_n, true_and, and_true, true_or, or_true, if_true, if_false, not_true_eq_false, not_false_eq_true, c]
      rfl
  | succ k ih =>
    intro s N p x y h hM hp
    have h171 := fun d Q => k171n (d := d) (Q := Q) hM hT.1 (show s < 8 by omega)
    have hp2 : p.2 < 2 ^ 30 := by
      rcases hp.2 with q | q
      · omega
      · have := gdT_le n (drT T p.1) (WF_dr hT.1 hp.1) (by rw [drT_o hp.1 (by omega)]; omega)
        omega
    by_cases c : hs T s
    · have h171 := fun d Q => (h171 d Q).trans (if_pos c)
      have hP := stP_r (s := s) (by omega)
      have hU : IsM (sw_up (cpT N 0 1107 41) 1 (1107 + stP s) (nI 9)) 1107 (drT T s) := IsM.up (cpT_IsM (b := 1107) hM) (stP s) 9
      obtain ⟨N1, a0, a1, a2⟩ := k166 (d := d + 2) (n := n) hU (WF_dr hT.1 (show s < 8 by omega)) (by rw [drT_o (show s < 8 by omega) (by omega)]; exact hL) (FB_dr hT.2.1 w0 (by omega)) (by omega) (by rw [drT_o (show s < 8 by omega) (by omega)]; omega) (by omega)
      have hg := gdT_le n (drT T s) (WF_dr hT.1 (by omega)) (by rw [drT_o (show s < 8 by omega) (by omega)]; omega)
      have e1 : sM N N1 := (sM.cp.up1 (by omega)).tr (sM.ofm a1)
      have hM1 : IsM N1 0 T := IsM_c hM (fun j _ _ => e1.2 j (by omega))
      obtain ⟨N2, b1, b2⟩ := ih (s + 1) N1 (bdS T n s p) (.int (nI (stP s))) (.int (nI (gdT (drT T s) n))) (by omega) hM1 (bdS_I (by omega) hp)
      refine ⟨N2, e1.tr b1, fun Q => ?_⟩
      refine Eq.trans ?_ (b2 Q)
      refine (s194_44 ..).trans ?_
      have a2 : ∀ Q, sw_Cal (d + 6) 166 [.ref 0, .int (nI 1107), .int (nI n)] (sw_up (cpT N 0 1107 41) 1 (1107 + stP s) (nI 9)) Q = Q (some (.int (nI (gdT (drT T s) n)))) N1 := a2
      unfold bdS
      by_cases e : p.2 < gdT (drT T s) n + 1
      · simp (disch := omega) only [s194_46, s194_48, s194_51, s194_52, s194_54, s194_57, s194_59, s194_61, s194_63, s194_66, s194_67, s194_70, s194_71, s194_74, s194_77, s194_79, s194_80, s194_82, s194_83, s194_84, s194_87, s194_88, s194_91, s194_93, s194_95, s194_97, s194_100, s194_102, s194_105, s194_106, s194_107, s194_109, s194_111, s194_114, s194_116, s194_119, s194_121, s194_123, s194_126, z_lt_t, z_lt_f, z_le_t, z_le_f, z_lt0, z_ge0, z_cl, z_in, z_add, z_eq_f, z_ne0, z_00, z_10, z_01, z_11, z_neg1, z_nI_NONE, z_div, z_rem, z_rem2, sw_pu_s, sw_pu_n, true_and, and_true, true_or, or_true, if_true, if_false, not_true_eq_false, not_false_eq_true, h171, k177, a2, z_szv_ge, show ¬ gdT (drT T s) n + 1 ≤ p.2 by omega, e, c, and_self, szv_s, Nat.succ_ne_zero]
      · simp (disch := omega) only [s194_46, s194_48, s194_51, s194_52, s194_54, s194_57, s194_59, s194_61, s194_63, s194_66, s194_67, s194_70, s194_71, s194_74, s194_77, s194_79, s194_80, s194_82, s194_83, s194_84, s194_87, s194_88, s194_91, s194_93, s194_95, s194_97, s194_100, s194_102, s194_105, s194_106, s194_107, s194_109, s194_111, s194_114, s194_116, s194_119, s194_121, s194_123, s194_126, z_lt_t, z_lt_f, z_le_t, z_le_f, z_lt0, z_ge0, z_cl, z_in, z_add, z_eq_f, z_ne0, z_00, z_10, z_01, z_11, z_neg1, z_nI_NONE, z_div, z_rem, z_rem2, sw_pu_s, sw_pu_n, true_and, and_true, true_or, or_true, if_true, if_false, not_true_eq_false, not_false_eq_true, h171, k177, a2, z_szv_ge, show gdT (drT T s) n + 1 ≤ p.2 by omega, e, and_false]
    · have h171 := fun d Q => (h171 d Q).trans (if_neg c)
      obtain ⟨N2, b1, b2⟩ := ih (s + 1) N (bdS T n s p) (.int (-1000000)) y (by omega) hM (bdS_I (by omega) hp)
      refine ⟨N2, b1, fun Q => ?_⟩
      refine Eq.trans ?_ (b2 Q)
      refine (s194_44 ..).trans ?_
      unfold bdS
      simp (disch := omega) only [s194_46, s194_48, s194_51, s194_52, s194_54, s194_57, s194_59, s194_61, s194_63, s194_66, s194_67, s194_70, s194_71, s194_74, s194_77, s194_79, s194_80, s194_82, s194_83, s194_84, s194_87, s194_88, s194_91, s194_93, s194_95, s194_97, s194_100, s194_102, s194_105, s194_106, s194_107, s194_109, s194_111, s194_114, s194_116, s194_119, s194_121, s194_123, s194_126, z_lt_t, z_lt_f, z_le_t, z_le_f, z_lt0, z_ge0, z_cl, z_in, z_add, z_eq_f, z_ne0, z_00, z_10, z_01, z_11, z_neg1, z_nI_NONE, z_div, z_rem, z_rem2, sw_pu_s, sw_pu_n, true_and, and_true, true_or, or_true, if_true, if_false, not_true_eq_false, not_false_eq_true, h171, c, false_and]
theorem o_dressing (x w : Int32) : Opp 112 194 [.int x, .int w] := by
  intro d T I π ρ τ ft sv θ M N hO hC hM
  have hV := hC.1
  have hT := hM.1.1
  have hi := hM.1.2
  have hW := hO.1.1
  have h9 := hO.1.2.2.1
  have h62 := fun d Q => k62 (d := d) (Q := Q) hV hW
  by_cases h0 : 0 < T 0
  case neg =>
    rw [is1_n h0] at hi
    refine Res_id hO hC hM (-1000002) (fun Q => ?_) (fun Q => ?_)
    · rw [c112]
      simp (disch := omega) only [s112_0, s112_1, s112_4, s112_7, s112_10, s112_12, z_lt_t, z_lt_f, z_le_t, z_le_f, z_lt0, z_ge0, z_cl, z_in, z_add, z_eq_f, z_ne0, z_00, z_10, z_01, z_11, z_neg1, z_nI_NONE, z_div, z_rem, z_rem2, sw_pu_s, sw_pu_n, true_and, and_true, true_or, or_true, if_true, if_false, not_true_eq_false, not_false_eq_true, h62, h0]
    · rw [c194]
      simp (disch := omega) only [s194_0, s194_1, s194_4, s194_7, s194_9, z_lt_t, z_lt_f, z_le_t, z_le_f, z_lt0, z_ge0, z_cl, z_in, z_add, z_eq_f, z_ne0, z_00, z_10, z_01, z_11, z_neg1, z_nI_NONE, z_div, z_rem, z_rem2, sw_pu_s, sw_pu_n, true_and, and_true, true_or, or_true, if_true, if_false, not_true_eq_false, not_false_eq_true, hi]
  rw [is1_p h0] at hi
  by_cases a : 0 ≤ x.toInt ∧ x.toInt ≤ 60
  case neg =>
    refine Res_id hO hC hM (-1000001) (fun Q => ?_) (fun Q => ?_)
    · rw [c112]
      simp (disch := omega) only [s112_0, s112_1, s112_4, s112_7, s112_10, s112_12, s112_13, s112_14, s112_17, s112_20, s112_21, s112_24, s112_25, s112_26, s112_29, s112_31, z_lt_t, z_lt_f, z_le_t, z_le_f, z_lt0, z_ge0, z_cl, z_in, z_add, z_eq_f, z_ne0, z_00, z_10, z_01, z_11, z_neg1, z_nI_NONE, z_div, z_rem, z_rem2, sw_pu_s, sw_pu_n, true_and, and_true, true_or, or_true, if_true, if_false, not_true_eq_false, not_false_eq_true, h62, h0, k126, ↓if_pos, ↓if_neg]
    · rw [c194]
      simp (disch := omega) only [s194_0, s194_1, s194_4, s194_7, s194_9, s194_10, s194_11, s194_12, s194_13, s194_16, s194_19, s194_22, s194_23, s194_24, s194_25, s194_26, s194_29, s194_32, s194_34, z_lt_t, z_lt_f, z_le_t, z_le_f, z_lt0, z_ge0, z_cl, z_in, z_add, z_eq_f, z_ne0, z_00, z_10, z_01, z_11, z_neg1, z_nI_NONE, z_div, z_rem, z_rem2, sw_pu_s, sw_pu_n, true_and, and_true, true_or, or_true, if_true, if_false, not_true_eq_false, not_false_eq_true, hi, k129, z_lT, z_xT, ↓if_pos, ↓if_neg]
  by_cases a2 : 0 ≤ w.toInt ∧ w.toInt ≤ 1
  case neg =>
    refine Res_id hO hC hM (-1000001) (fun Q => ?_) (fun Q => ?_)
    · rw [c112]
      by_cases b3 : w.toInt < 0
      · simp (disch := omega) only [s112_0, s112_1, s112_4, s112_7, s112_10, s112_12, s112_13, s112_14, s112_17, s112_20, s112_21, s112_24, s112_25, s112_26, s112_29, s112_31, z_lt_t, z_lt_f, z_le_t, z_le_f, z_lt0, z_ge0, z_cl, z_in, z_add, z_eq_f, z_ne0, z_00, z_10, z_01, z_11, z_neg1, z_nI_NONE, z_div, z_rem, z_rem2, sw_pu_s, sw_pu_n, true_and, and_true, true_or, or_true, if_true, if_false, not_true_eq_false, not_false_eq_true, h62, h0, k126, z_ltI, z_gtI, z_leI, z_geI, z_lt0I, z_ge0I, z_gt0I, z_le0I, z_ibI, Int32.toInt_zero, ↓if_pos, ↓if_neg]
      · simp (disch := omega) only [s112_0, s112_1, s112_4, s112_7, s112_10, s112_12, s112_13, s112_14, s112_17, s112_20, s112_21, s112_24, s112_25, s112_26, s112_29, s112_31, z_lt_t, z_lt_f, z_le_t, z_le_f, z_lt0, z_ge0, z_cl, z_in, z_add, z_eq_f, z_ne0, z_00, z_10, z_01, z_11, z_neg1, z_nI_NONE, z_div, z_rem, z_rem2, sw_pu_s, sw_pu_n, true_and, and_true, true_or, or_true, if_true, if_false, not_true_eq_false, not_false_eq_true, h62, h0, k126, z_ltI, z_gtI, z_leI, z_geI, z_lt0I, z_ge0I, z_gt0I, z_le0I, z_ibI, Int32.toInt_zero, ↓if_pos, ↓if_neg]
    · rw [c194]
      simp (disch := omega) only [s194_0, s194_1, s194_4, s194_7, s194_9, s194_10, s194_11, s194_12, s194_13, s194_16, s194_19, s194_22, s194_23, s194_24, s194_25, s194_26, s194_29, s194_32, s194_34, z_lt_t, z_lt_f, z_le_t, z_le_f, z_lt0, z_ge0, z_cl, z_in, z_add, z_eq_f, z_ne0, z_00, z_10, z_01, z_11, z_neg1, z_nI_NONE, z_div, z_rem, z_rem2, sw_pu_s, sw_pu_n, true_and, and_true, true_or, or_true, if_true, if_false, not_true_eq_false, not_false_eq_true, hi, k129, z_lT, z_xT, ↓if_pos, ↓if_neg]
  obtain ⟨n, hn, rfl⟩ := sw_ib_of (x := x) (n := 61) (by rw [z_ibI]; omega) (by omega)
  have hp : bdI T n (4, 0) := ⟨by show 4 < 8; omega, Or.inl rfl⟩
  have hF := bdF_I 8 0 (4, 0) rfl hp
  have hP := bdF_p (n := n) h0 (4, 0)
  have hN : ¬ (bdF T n 8 0 (4, 0)).2 = 0 := by omega
  obtain ⟨q8, q⟩ := hF
  obtain ⟨qh, qv⟩ : hs T (bdF T n 8 0 (4, 0)).1 ∧ (bdF T n 8 0 (4, 0)).2 = gdT (drT T (bdF T n 8 0 (4, 0)).1) n + 1 := by
    rcases q with q | q
    · exact absurd q hN
    · exact q
  obtain ⟨M1, e1, e2⟩ := k12L (d := d + 12) hO.1 (show n ≤ 60 by omega) 8 0 M (4, 0) sw_U rfl hV hp
  have hV1 : IsV M1 34 T := IsV_c hV (fun k _ _ => e1 k (by omega))
  obtain ⟨M2, f1, f2⟩ := k13 (d := d + 13) hV1 hO.1 (show n ≤ 60 by omega) q8 qh
  obtain ⟨N1, g1, g2⟩ := k194L (d := d + 13) hO.1 (hO.1.2.2.2.1 h0) (show n ≤ 60 by omega) w 8 0 N (4, 0) sw_U sw_U rfl hT hp
  have h12 : ∀ Q, sw_Cal (d + 19) 12 [.ref 82, .ref 34, .int (nI n)] M Q = Q (some (.int (nI (bdF T n 8 0 (4, 0)).1))) M1 := by
    intro Q
    rw [c12]
    simp (disch := omega) only [s12_0, s12_1, s12_2, s12_3, s12_5, s12_6]
    exact e2 Q
  have hL : ∀ Q, sw_Cal (d + 20) 194 [.ref 0, .int (nI n), .int w] N Q = (if w = 0 then Q (some (.int (nI (bdF T n 8 0 (4, 0)).1))) N1 else Q (some (.int (nI (gdT (drT T (bdF T n 8 0 (4, 0)).1) n)))) N1) := by
    intro Q
    rw [c194]
    simp (disch := omega) only [s194_0, s194_1, s194_4, s194_7, s194_9, s194_10, s194_11, s194_12, s194_13, s194_16, s194_19, s194_22, s194_23, s194_24, s194_25, s194_26, s194_29, s194_32, s194_34, s194_35, s194_37, s194_38, s194_39, s194_41, s194_42, z_lt_t, z_lt_f, z_le_t, z_le_f, z_lt0, z_ge0, z_cl, z_in, z_add, z_eq_f, z_ne0, z_00, z_10, z_01, z_11, z_neg1, z_nI_NONE, z_div, z_rem, z_rem2, sw_pu_s, sw_pu_n, true_and, and_true, true_or, or_true, if_true, if_false, not_true_eq_false, not_false_eq_true, hi, k129, z_lT, z_xT, z_TI, ↓if_pos, ↓if_neg]
    refine (g2 Q).trans ?_
    rw [if_neg hN, qv, szv_s]
  by_cases e : w = 0
  · refine Res_scr hO hC hM (nI (bdF T n 8 0 (4, 0)).1) e1 g1 (fun Q => ?_) (fun Q => ?_)
    · rw [c112]
      subst e
      simp (disch := omega) only [s112_0, s112_1, s112_4, s112_7, s112_10, s112_12, s112_13, s112_14, s112_17, s112_20, s112_21, s112_24, s112_25, s112_26, s112_29, s112_31, s112_32, s112_33, s112_36, s112_37, s112_40, s112_41, s112_44, s112_45, s112_46, s112_49, s112_50, s112_53, s112_54, s112_57, s112_58, s112_61, s112_62, s112_63, s112_66, z_lt_t, z_lt_f, z_le_t, z_le_f, z_lt0, z_ge0, z_cl, z_in, z_add, z_eq_f, z_ne0, z_00, z_10, z_01, z_11, z_neg1, z_nI_NONE, z_div, z_rem, z_rem2, sw_pu_s, sw_pu_n, true_and, and_true, true_or, or_true, if_true, if_false, not_true_eq_false, not_false_eq_true, h62, h0, k126, z_TI, h12, Int32.lt_irrefl, ↓if_pos, ↓if_neg, show ¬ nI 1 < 0 by decide]
    · rw [hL, if_pos e]
  · refine Res_scr hO hC hM (nI (gdT (drT T (bdF T n 8 0 (4, 0)).1) n)) (e1.tr f1) g1 (fun Q => ?_) (fun Q => ?_)
    · rw [c112]
      simp (disch := omega) only [s112_0, s112_1, s112_4, s112_7, s112_10, s112_12, s112_13, s112_14, s112_17, s112_20, s112_21, s112_24, s112_25, s112_26, s112_29, s112_31, s112_32, s112_33, s112_36, s112_37, s112_40, s112_41, s112_44, s112_45, s112_46, s112_49, s112_50, s112_53, s112_54, s112_57, s112_58, s112_61, s112_62, s112_63, s112_66, z_lt_t, z_lt_f, z_le_t, z_le_f, z_lt0, z_ge0, z_cl, z_in, z_add, z_eq_f, z_ne0, z_00, z_10, z_01, z_11, z_neg1, z_nI_NONE, z_div, z_rem, z_rem2, sw_pu_s, sw_pu_n, true_and, and_true, true_or, or_true, if_true, if_false, not_true_eq_false, not_false_eq_true, h62, h0, k126, z_TI, z_ltI, z_gtI, z_leI, z_geI, z_lt0I, z_ge0I, z_gt0I, z_le0I, z_ibI, Int32.toInt_zero, h12, f2, e, ↓if_pos, ↓if_neg]
    · rw [hL, if_neg e]
end DRS
