section FIW
variable {d n : Nat} {T : Tw} {I : Nat → Tw} {π : Ps} {ρ : Rw} {τ : Tp} {ft sv : Int32} {θ : Tc} {h : Nat → Int32} {M N : sw_Mem} {Q : Option Value → sw_Mem → Prop}
def oP (n : Nat) (h : Nat → Int32) (b : Nat) (T : Tw) (p : Nat) (k : Nat) : Bool := ftB (dfl b) h n 0 (upT T p k)
theorem k199L (hn : n ≤ 16) (hT : OKT T) (hL : 0 < T 2) {r i b s w : Nat} (hr : r < 8) (hi : i + n ≤ 40) (hb : b < T 0) (hs : s < T 1) (hw : w = 1 ∨ w = 2) : ∀ m k a (N : sw_Mem), k + m = (if w = 1 then 6 else 10) → (w = 1 → 1 ≤ k) → hM n h r i T N →
    ∃ N', sM N N' ∧ ∀ Q, sw_WP (d + 4) 199 24 [.ref 0, .int (nI b), .int (nI r), .int (nI i), .int (nI n), .int (nI w), .int (nI s), .int a, .int (nI k)] [] N Q = Q (some (.int (orb (fun k => ftB (dfl b) h n 0 (upT T ((if w = 1 then 21 else 25) + s) k)) m k a))) N' := by
  have hW := hT.1
  have w0 := hW.1
  have w1 := hW.2.1
  have h9 := hT.2.2.1
  intro m
  induction m with
  | zero =>
    intro k a N hk h1 hh
    refine ⟨N, sM.rf, fun Q => ?_⟩
    rw [orb_0]
    refine (s199_24 ..).trans ?_
    rcases hw with rfl | rfl
    · rw [if_pos rfl] at hk
      simp (disch := omega) only [s199_0, s199_1, s199_2, s199_3, s199_6, s199_8, s199_9, s199_11, s199_13, s199_14, s199_17, s199_18, s199_21, s199_22, s199_26, s199_28, s199_29, s199_32, s199_34, s199_37, s199_39, s199_42, s199_44, s199_46, s199_49, s199_50, s199_53, s199_54, s199_57, s199_60, s199_62, s199_63, s199_66, s199_68, s199_71, s199_73, s199_74, s199_76, s199_77, s199_79, s199_80, s199_82, s199_83, s199_84, s199_85, s199_86, s199_88, s199_91, s199_94, s199_95, s199_97, s199_98, s199_101, s199_102, s199_103, s199_105, s199_108, s199_111, s199_113, z_lt_t, z_lt_f, z_le_t, z_le_f, z_lt0, z_ge0, z_cl, z_in, z_add, z_eq_f, z_ne0, z_00, z_10, z_01, z_11, z_neg1, z_nI_NONE, z_div, z_rem, z_rem2, sw_pu_s, sw_pu_n, true_and, and_true, true_or, or_true, if_true, if_false, not_true_eq_false, not_false_eq_true]
    · rw [if_neg (by decide)] at hk
      simp (disch := omega) only [s199_0, s199_1, s199_2, s199_3, s199_6, s199_8, s199_9, s199_11, s199_13, s199_14, s199_17, s199_18, s199_21, s199_22, s199_26, s199_28, s199_29, s199_32, s199_34, s199_37, s199_39, s199_42, s199_44, s199_46, s199_49, s199_50, s199_53, s199_54, s199_57, s199_60, s199_62, s199_63, s199_66, s199_68, s199_71, s199_73, s199_74, s199_76, s199_77, s199_79, s199_80, s199_82, s199_83, s199_84, s199_85, s199_86, s199_88, s199_91, s199_94, s199_95, s199_97, s199_98, s199_101, s199_102, s199_103, s199_105, s199_108, s199_111, s199_113, z_lt_t, z_lt_f, z_le_t, z_le_f, z_lt0, z_ge0, z_cl, z_in, z_add, z_eq_f, z_ne0, z_00, z_10, z_01, z_11, z_neg1, z_nI_NONE, z_div, z_rem, z_rem2, sw_pu_s, sw_pu_n, true_and, and_true, true_or, or_true, if_true, if_false, not_true_eq_false, not_false_eq_true]
  | succ m ih =>
    intro k a N hk h1 hh
    have hL0 : IsM (sw_up (cpT N 0 1107 41) 1 (1107 + ((if w = 1 then 21 else 25) + s)) (nI k)) 1107 (upT T ((if w = 1 then 21 else 25) + s) k) := IsM.up (cpT_IsM hh.1) _ _
    have e1 : OfM N (sw_up (cpT N 0 1107 41) 1 (1107 + ((if w = 1 then 21 else 25) + s)) (nI k)) 1107 := cpT_OfM.up (by split <;> omega)
    have hH := hh.off e1
    have hW1 : WF (upT T ((if w = 1 then 21 else 25) + s) k) := by
      rcases hw with rfl | rfl
      · rw [if_pos rfl] at hk ⊢
        exact WF_upk hW hs (h1 rfl) (by omega)
      · rw [if_neg (by decide)] at hk ⊢
        exact WF_upr hW hs (by omega)
    have eU : ∀ j, j < 21 → upT T ((if w = 1 then 21 else 25) + s) k j = T j := fun j hj => upT_n _ _ (by split <;> omega)
    obtain ⟨N2, b1', b2⟩ := k196 (d := d) (b := b) (F := 144 * T 4) hn hr hi hL0 hW1 (by rw [eU _ (by omega)]; exact hL) (by rw [eU _ (by omega)]; exact hb) (FB_up hT.2.1 (by split <;> omega) w0) (by omega) (by rw [eU _ (by omega)]; omega) hH.2
    obtain ⟨N3, c1, c2⟩ := ih (k + 1) (a ||| (if ftB (dfl b) h n 0 (upT T ((if w = 1 then 21 else 25) + s) k) = true then nI 1 <<< (nI k &&& 31) else nI 0)) N2 (by omega) (fun _ => by omega) (hH.off b1')
    refine ⟨N3, (sM.ofm (e1.tr b1')).tr c1, fun Q => ?_⟩
    rw [orb_s, ← c2 Q]
    refine (s199_24 ..).trans ?_
    rcases hw with rfl | rfl
    · rw [if_pos rfl] at hk b2 ⊢
      rw [show 1107 + (21 + s) = 1128 + s by omega] at b2
      cases e : ftB (dfl b) h n 0 (upT T (21 + s) k) <;> rw [e] at b2
      · rw [b1_f] at b2
        simp (disch := omega) only [s199_0, s199_1, s199_2, s199_3, s199_6, s199_8, s199_9, s199_11, s199_13, s199_14, s199_17, s199_18, s199_21, s199_22, s199_26, s199_28, s199_29, s199_32, s199_34, s199_37, s199_39, s199_42, s199_44, s199_46, s199_49, s199_50, s199_53, s199_54, s199_57, s199_60, s199_62, s199_63, s199_66, s199_68, s199_71, s199_73, s199_74, s199_76, s199_77, s199_79, s199_80, s199_82, s199_83, s199_84, s199_85, s199_86, s199_88, s199_91, s199_94, s199_95, s199_97, s199_98, s199_101, s199_102, s199_103, s199_105, s199_108, s199_111, s199_113, z_lt_t, z_lt_f, z_le_t, z_le_f, z_lt0, z_ge0, z_cl, z_in, z_add, z_eq_f, z_ne0, z_00, z_10, z_01, z_11, z_neg1, z_nI_NONE, z_div, z_rem, z_rem2, sw_pu_s, sw_pu_n, true_and, and_true, true_or, or_true, if_true, if_false, not_true_eq_false, not_false_eq_true, k177, b2, Bool.false_eq_true]
      · rw [b1_t] at b2
        simp (disch := omega) only [s199_0, s199_1, s199_2, s199_3, s199_6, s199_8, s199_9, s199_11, s199_13, s199_14, s199_17, s199_18, s199_21, s199_22, s199_26, s199_28, s199_29, s199_32, s199_34, s199_37, s199_39, s199_42, s199_44, s199_46, s199_49, s199_50, s199_53, s199_54, s199_57, s199_60, s199_62, s199_63, s199_66, s199_68, s199_71, s199_73, s199_74, s199_76, s199_77, s199_79, s199_80, s199_82, s199_83, s199_84, s199_85, s199_86, s199_88, s199_91, s199_94, s199_95, s199_97, s199_98, s199_101, s199_102, s199_103, s199_105, s199_108, s199_111, s199_113, z_lt_t, z_lt_f, z_le_t, z_le_f, z_lt0, z_ge0, z_cl, z_in, z_add, z_eq_f, z_ne0, z_00, z_10, z_01, z_11, z_neg1, z_nI_NONE, z_div, z_rem, z_rem2, sw_pu_s, sw_pu_n, true_and, and_true, true_or, or_true, if_true, if_false, not_true_eq_false, not_false_eq_true, k177, b2]
    · rw [if_neg (show ¬ 2 = 1 by decide)] at hk b2 ⊢
      rw [show 1107 + (25 + s) = 1132 + s by omega] at b2
      cases e : ftB (dfl b) h n 0 (upT T (25 + s) k) <;> rw [e] at b2
      · rw [b1_f] at b2
        simp (disch := omega) only [s199_0, s199_1, s199_2, s199_3, s199_6, s199_8, s199_9, s199_11, s199_13, s199_14, s199_17, s199_18, s199_21, s199_22, s199_26, s199_28, s199_29, s199_32, s199_34, s199_37, s199_39, s199_42, s199_44, s199_46, s199_49, s199_50, s199_53, s199_54, s199_57, s199_60, s199_62, s199_63, s199_66, s199_68, s199_71, s199_73, s199_74, s199_76, s199_77, s199_79, s199_80, s199_82, s199_83, s199_84, s199_85, s199_86, s199_88, s199_91, s199_94, s199_95, s199_97, s199_98, s199_101, s199_102, s199_103, s199_105, s199_108, s199_111, s199_113, z_lt_t, z_lt_f, z_le_t, z_le_f, z_lt0, z_ge0, z_cl, z_in, z_add, z_eq_f, z_ne0, z_00, z_10, z_01, z_11, z_neg1, z_nI_NONE, z_div, z_rem, z_rem2, sw_pu_s, sw_pu_n, true_and, and_true, true_or, or_true, if_true, if_false, not_true_eq_false, not_false_eq_true, k177, b2, Bool.false_eq_true]
      · rw [b1_t] at b2
        simp (disch := omega) only [s199_0, s199_1, s199_2, s199_3, s199_6, s199_8, s199_9, s199_11, s199_13, s199_14, s199_17, s199_18, s199_21, s199_22, s199_26, s199_28, s199_29, s199_32, s199_34, s199_37, s199_39, s199_42, s199_44, s199_46, s199_49, s199_50, s199_53, s199_54, s199_57, s199_60, s199_62, s199_63, s199_66, s199_68, s199_71, s199_73, s199_74, s199_76, s199_77, s199_79, s199_80, s199_82, s199_83, s199_84, s199_85, s199_86, s199_88, s199_91, s199_94, s199_95, s199_97, s199_98, s199_101, s199_102, s199_103, s199_105, s199_108, s199_111, s199_113, z_lt_t, z_lt_f, z_le_t, z_le_f, z_lt0, z_ge0, z_cl, z_in, z_add, z_eq_f, z_ne0, z_00, z_10, z_01, z_11, z_neg1, z_nI_NONE, z_div, z_rem, z_rem2, sw_pu_s, sw_pu_n, true_and, and_true, true_or, or_true, if_true, if_false, not_true_eq_false, not_false_eq_true, k177, b2]
end FIW
