section MOP
variable {d e q sp : Nat} {T : Tw} {t : Nat → Nat} {s : St} {M N : sw_Mem} {Q : Option Value → sw_Mem → Prop}
def y32 : Value → Int32
  | .int x => x
  | _ => 0
theorem y32_i (x : Int32) : y32 (.int x) = x := rfl
theorem z_szl {g v : Nat} (hg : g < 2 ^ 20) (hv : v < 2 ^ 20) : (nI g ≤ szv v) = (g + 1 ≤ v) := by
  cases v with
  | zero =>
    rw [szv_0, eq_iff_iff, Int32.le_iff_toInt_le, nI_toInt (by omega), z_m1T]
    omega
  | succ v =>
    rw [szv_s, eq_iff_iff, nI_leI (by omega) (by omega)]
    omega
theorem z_szm {v : Nat} (hv : v < 2 ^ 20) : (-1 ≤ szv v) = True := by
  cases v with
  | zero => rw [szv_0]; exact eq_true (Int32.le_refl _)
  | succ v =>
    rw [szv_s]
    refine eq_true (Int32.le_iff_toInt_le.mpr ?_)
    rw [nI_toInt (by omega), z_m1T]
    omega
theorem k192O (hT : OKT T) (h0 : 0 < T 0) (hL : 0 < T 2) (he : e ≤ 60) {N0 : sw_Mem} (k : Int32) (hi : mI T 0 N0 (fun _ => 0) (s0 0) N) : ∃ y' N' t', mI T 0 N0 t' (mf (fV 0 0 T e) (T 0) (T 1) 0 (fun _ => 0) (s0 0)) N' ∧ mP T 0 (mf (fV 0 0 T e) (T 0) (T 1) 0 (fun _ => 0) (s0 0)) ∧ (∀ q, q < T 1 → t' q = 4) ∧
    ∀ Q, sw_WP (d + 5) 192 48 [.ref 0, .int (nI e), .int k, .int (-1), .int (nI 1), sw_U] [] N Q = sw_WP (d + 5) 192 84 [.ref 0, .int (nI e), .int k, .int (szv (mf (fV 0 0 T e) (T 0) (T 1) 0 (fun _ => 0) (s0 0)).1), .int (nI 1), .int (y32 y')] [] N' Q := by
  have hW := hT.1
  have w0 := hW.1
  have w1 := hW.2.1
  have main := odo (mI T 0 N0) (fun y s N Q => sw_WP (d + 5) 192 48 [.ref 0, .int (nI e), .int k, .int (szv s.1), .int (nI 1), y] [] N Q) (fun y s N Q => sw_WP (d + 5) 192 84 [.ref 0, .int (nI e), .int k, .int (szv s.1), .int (nI 1), .int (y32 y)] [] N Q) (fV 0 0 T e) (T 0) (T 1) h0 w0 (mP T 0)
    (fun s t hs ht => fV_P hT he hs ht)
    (by
      intro y t s N hp ht hi
      have h186 := fun d Q => k186 (d := d) (Q := Q) hi.1 hW ht
      have hg := gD_le hT he (T 1) ht
      have hv : s.1 ≤ 40000 := by
        rcases hp.1 with h | h
        · exact h.2
        · omega
      unfold fV
      cases ev : vdF t (T 1) 0 0 <;> rw [ev] at h186
      · rw [b1_f] at h186
        rw [if_neg (by decide)]
        refine ⟨.int (-1), N, hi, fun Q => ?_⟩
        rw [y32_i]
        refine (s192_48 ..).trans ?_
        simp (disch := omega) only [s192_50, s192_53, s192_54, s192_57, s192_60, s192_61, s192_62, s192_65, s192_68, s192_69, s192_71, s192_73, s192_74, s192_77, s192_79, s192_80, s192_81, z_lt_t, z_lt_f, z_le_t, z_le_f, z_lt0, z_ge0, z_cl, z_in, z_add, z_eq_f, z_ne0, z_00, z_10, z_01, z_11, z_neg1, z_nI_NONE, z_div, z_rem, z_rem2, sw_pu_s, sw_pu_n, true_and, and_true, true_or, or_true, if_true, if_false, not_true_eq_false, not_false_eq_true, h186, z_szm]
      · rw [b1_t] at h186
        rw [if_pos rfl]
        obtain ⟨N1, a1, a2, a3⟩ := k187 (d := d) hi.1 hT hL ht he ev
        have hi1 := mI_o hi a1 a2
        have hc := z_szl (g := gD T e t (T 1)) (v := s.1) (by omega) (by omega)
        unfold lf
        rw [if_pos rfl]
        by_cases c : s.1 < gD T e t (T 1) + 1
        · rw [if_pos c]
          obtain ⟨N2, b1', b2, b3, b4⟩ := k190 (d := d + 4) a1
          refine ⟨.int (nI (gD T e t (T 1))), N2, mI_10 hi1 b1' b2 b3 w1, fun Q => ?_⟩
          rw [y32_i, szv_s]
          refine (s192_48 ..).trans ?_
          simp (disch := omega) only [s192_50, s192_53, s192_54, s192_57, s192_60, s192_61, s192_62, s192_65, s192_68, s192_69, s192_71, s192_73, s192_74, s192_77, s192_79, s192_80, s192_81, z_lt_t, z_lt_f, z_le_t, z_le_f, z_lt0, z_ge0, z_cl, z_in, z_add, z_eq_f, z_ne0, z_00, z_10, z_01, z_11, z_neg1, z_nI_NONE, z_div, z_rem, z_rem2, sw_pu_s, sw_pu_n, true_and, and_true, true_or, or_true, if_true, if_false, not_true_eq_false, not_false_eq_true, h186, a3, hc, show ¬ (gD T e t (T 1) + 1 ≤ s.1) by omega, b4]
        · rw [if_neg c]
          refine ⟨.int (nI (gD T e t (T 1))), N1, hi1, fun Q => ?_⟩
          rw [y32_i]
          refine (s192_48 ..).trans ?_
          simp (disch := omega) only [s192_50, s192_53, s192_54, s192_57, s192_60, s192_61, s192_62, s192_65, s192_68, s192_69, s192_71, s192_73, s192_74, s192_77, s192_79, s192_80, s192_81, z_lt_t, z_lt_f, z_le_t, z_le_f, z_lt0, z_ge0, z_cl, z_in, z_add, z_eq_f, z_ne0, z_00, z_10, z_01, z_11, z_neg1, z_nI_NONE, z_div, z_rem, z_rem2, sw_pu_s, sw_pu_n, true_and, and_true, true_or, or_true, if_true, if_false, not_true_eq_false, not_false_eq_true, h186, a3, hc, show gD T e t (T 1) + 1 ≤ s.1 by omega])
    (by
      intro y t t' r s N hp hr ht hi h4 ha h1 h2 h3
      obtain ⟨N', a1, a2, a3⟩ := k185 (d := d + 4) hi.1 hW hr h4 ha h1 h2 h3
      refine ⟨.int (y32 y), N', mI_9 hi a1 a2, fun Q => ?_⟩
      simp (disch := omega) only [s192_84, s192_85, s192_88, s192_90, z_lt_t, z_lt_f, z_le_t, z_le_f, z_lt0, z_ge0, z_cl, z_in, z_add, z_eq_f, z_ne0, z_00, z_10, z_01, z_11, z_neg1, z_nI_NONE, z_div, z_rem, z_rem2, sw_pu_s, sw_pu_n, true_and, and_true, true_or, or_true, if_true, if_false, not_true_eq_false, not_false_eq_true, a3])
    (T 1) 0 (fun _ => 0) (s0 0) N sw_U (by omega) (fun _ _ _ => rfl) (fun _ _ => Or.inr h0) ⟨s0_ok (Or.inl rfl), fun h => absurd rfl h⟩ hi
  obtain ⟨y', N', t', a1, a2, a3, a4, a5, a6⟩ := main
  exact ⟨y', N', t', a1, a2, fun q hq => a4 q (by omega) hq, a6⟩
theorem k193O (hT : OKT T) (h0 : 0 < T 0) (hL : 0 < T 2) (he : e ≤ 60) (hq : q < 1000) {N0 : sw_Mem} (k : Int32) (hi : mI T 1 N0 (fun _ => 0) (s0 1) N) : ∃ N' t', mI T 1 N0 t' (mf (fV 1 q T e) (T 0) (T 1) 0 (fun _ => 0) (s0 1)) N' ∧ mP T 1 (mf (fV 1 q T e) (T 0) (T 1) 0 (fun _ => 0) (s0 1)) ∧ (∀ q, q < T 1 → t' q = 4) ∧
    ∀ Q, sw_WP (d + 5) 193 61 [.ref 0, .int (nI e), .int (nI q), .int k, .int (nI 5), .int (nI 1)] [] N Q = sw_WP (d + 5) 193 101 [.ref 0, .int (nI e), .int (nI q), .int k, .int (nI (mf (fV 1 q T e) (T 0) (T 1) 0 (fun _ => 0) (s0 1)).1), .int (nI 1)] [] N' Q := by
  have hW := hT.1
  have w0 := hW.1
  have w1 := hW.2.1
  have main := odo (mI T 1 N0) (fun _ s N Q => sw_WP (d + 5) 193 61 [.ref 0, .int (nI e), .int (nI q), .int k, .int (nI s.1), .int (nI 1)] [] N Q) (fun _ s N Q => sw_WP (d + 5) 193 101 [.ref 0, .int (nI e), .int (nI q), .int k, .int (nI s.1), .int (nI 1)] [] N Q) (fV 1 q T e) (T 0) (T 1) h0 w0 (mP T 1)
    (fun s t hs ht => fV_P hT he hs ht)
    (by
      intro y t s N hp ht hi
      have h186 := fun d Q => k186 (d := d) (Q := Q) hi.1 hW ht
      have h188 := fun d Q => k188 (d := d) (Q := Q) hi.1 hW ht
      have hg := gD_le hT he (T 1) ht
      have hm := mD_le T t (T 1)
      have hv : s.1 ≤ 5 := by
        rcases hp.1 with h | h
        · omega
        · exact h.2
      unfold fV
      by_cases c : mD T t (T 1) < s.1
      · cases ev : vdF t (T 1) 0 0 <;> rw [ev] at h186
        · rw [b1_f] at h186
          rw [if_neg (by decide)]
          refine ⟨sw_U, N, hi, fun Q => ?_⟩
          refine (s193_61 ..).trans ?_
          simp (disch := omega) only [s193_63, s193_66, s193_67, s193_70, s193_72, s193_75, s193_76, s193_79, s193_82, s193_83, s193_84, s193_87, s193_88, s193_91, s193_92, s193_95, s193_97, s193_98, z_lt_t, z_lt_f, z_le_t, z_le_f, z_lt0, z_ge0, z_cl, z_in, z_add, z_eq_f, z_ne0, z_00, z_10, z_01, z_11, z_neg1, z_nI_NONE, z_div, z_rem, z_rem2, sw_pu_s, sw_pu_n, true_and, and_true, true_or, or_true, if_true, if_false, not_true_eq_false, not_false_eq_true, h188, h186]
        · rw [b1_t] at h186
          rw [if_pos rfl]
          obtain ⟨N1, a1, a2, a3⟩ := k187 (d := d) hi.1 hT hL ht he ev
          have hi1 := mI_o hi a1 a2
          have h188' := fun d Q => k188 (d := d) (Q := Q) a1 hW ht
          unfold lf
          rw [if_neg (by decide)]
          by_cases c2 : q ≤ gD T e t (T 1)
          · rw [if_pos ⟨c2, c⟩]
            obtain ⟨N2, b1', b2, b3, b4⟩ := k190 (d := d + 4) a1
            refine ⟨sw_U, N2, mI_10 hi1 b1' b2 b3 w1, fun Q => ?_⟩
            refine (s193_61 ..).trans ?_
            simp (disch := omega) only [s193_63, s193_66, s193_67, s193_70, s193_72, s193_75, s193_76, s193_79, s193_82, s193_83, s193_84, s193_87, s193_88, s193_91, s193_92, s193_95, s193_97, s193_98, z_lt_t, z_lt_f, z_le_t, z_le_f, z_lt0, z_ge0, z_cl, z_in, z_add, z_eq_f, z_ne0, z_00, z_10, z_01, z_11, z_neg1, z_nI_NONE, z_div, z_rem, z_rem2, sw_pu_s, sw_pu_n, true_and, and_true, true_or, or_true, if_true, if_false, not_true_eq_false, not_false_eq_true, h188, h186, a3, h188', b4]
          · rw [if_neg (fun w => c2 w.1)]
            refine ⟨sw_U, N1, hi1, fun Q => ?_⟩
            refine (s193_61 ..).trans ?_
            simp (disch := omega) only [s193_63, s193_66, s193_67, s193_70, s193_72, s193_75, s193_76, s193_79, s193_82, s193_83, s193_84, s193_87, s193_88, s193_91, s193_92, s193_95, s193_97, s193_98, z_lt_t, z_lt_f, z_le_t, z_le_f, z_lt0, z_ge0, z_cl, z_in, z_add, z_eq_f, z_ne0, z_00, z_10, z_01, z_11, z_neg1, z_nI_NONE, z_div, z_rem, z_rem2, sw_pu_s, sw_pu_n, true_and, and_true, true_or, or_true, if_true, if_false, not_true_eq_false, not_false_eq_true, h188, h186, a3]
      · have ef : (if vdF t (T 1) 0 0 = true then lf 1 q T e s t else s) = s := by
          split
          · unfold lf
            rw [if_neg (by decide), if_neg (fun w => c w.2)]
          · rfl
        rw [ef]
        refine ⟨sw_U, N, hi, fun Q => ?_⟩
        refine (s193_61 ..).trans ?_
        simp (disch := omega) only [s193_63, s193_66, s193_67, s193_70, s193_72, s193_75, s193_76, s193_79, s193_82, s193_83, s193_84, s193_87, s193_88, s193_91, s193_92, s193_95, s193_97, s193_98, z_lt_t, z_lt_f, z_le_t, z_le_f, z_lt0, z_ge0, z_cl, z_in, z_add, z_eq_f, z_ne0, z_00, z_10, z_01, z_11, z_neg1, z_nI_NONE, z_div, z_rem, z_rem2, sw_pu_s, sw_pu_n, true_and, and_true, true_or, or_true, if_true, if_false, not_true_eq_false, not_false_eq_true, h188])
    (by
      intro y t t' r s N hp hr ht hi h4 ha h1 h2 h3
      obtain ⟨N', a1, a2, a3⟩ := k185 (d := d + 4) hi.1 hW hr h4 ha h1 h2 h3
      refine ⟨sw_U, N', mI_9 hi a1 a2, fun Q => ?_⟩
      simp (disch := omega) only [s193_101, s193_102, s193_105, s193_107, z_lt_t, z_lt_f, z_le_t, z_le_f, z_lt0, z_ge0, z_cl, z_in, z_add, z_eq_f, z_ne0, z_00, z_10, z_01, z_11, z_neg1, z_nI_NONE, z_div, z_rem, z_rem2, sw_pu_s, sw_pu_n, true_and, and_true, true_or, or_true, if_true, if_false, not_true_eq_false, not_false_eq_true, a3])
    (T 1) 0 (fun _ => 0) (s0 1) N sw_U (by omega) (fun _ _ _ => rfl) (fun _ _ => Or.inr h0) ⟨s0_ok (Or.inr rfl), fun h => absurd rfl h⟩ hi
  obtain ⟨y', N', t', a1, a2, a3, a4, a5, a6⟩ := main
  exact ⟨N', t', a1, a2, fun q hq => a4 q (by omega) hq, a6⟩
theorem bst_mf (w0 : T 0 ≤ 4) : bst sp q T e = mf (fV sp q T e) (T 0) (T 1) 0 (fun _ => 0) (s0 sp) :=
  cf_mf (N := T 1) w0 (T 1) 0 0 (fun _ => 0) (s0 sp) (fun _ _ => rfl)
theorem vdF_4 {t : Nat → Nat} : ∀ n r tk, (∀ q, r ≤ q → q < r + n → t q = 4) → vdF t n r tk = true := by
  intro n
  induction n with
  | zero => intro r tk _; rfl
  | succ n ih =>
    intro r tk h
    rw [vdF_s, if_pos (h r (by omega) (by omega))]
    exact ih (r + 1) tk (fun q h1 h2 => h q (by omega) (by omega))
theorem bst_0 (w0 : T 0 ≤ 4) : (bst 0 0 T e).1 ≠ 0 := by
  rw [bst_mf w0]
  refine mf_last (P := fun s => s.1 ≠ 0) (T 1) 0 (fun _ => 0) (s0 0) (fun s t' _ h4 => ?_)
  unfold fV
  rw [if_pos (vdF_4 (T 1) 0 0 (fun q h1 h2 => h4 q h1 h2))]
  unfold lf
  rw [if_pos rfl]
  split
  · exact Nat.succ_ne_zero _
  · rename_i c
    omega
theorem bv_M {v : Nat} (hv : v ≤ 5) : (bvC 1 v = -5) = (v = 5) := by
  unfold bvC
  rw [if_neg (by decide)]
  by_cases e : v = 5
  · rw [if_pos e]
    exact propext ⟨fun _ => e, fun _ => rfl⟩
  · rw [if_neg e]
    refine propext ⟨fun h => ?_, fun h => absurd h e⟩
    have := congrArg Int32.toInt h
    rw [ng_T (by omega), MIN_T] at this
    omega
theorem z_ltm1 (x : Int32) : (x < -1) = (x.toInt < -1) := by rw [eq_iff_iff, Int32.lt_iff_toInt_lt, z_m1T]
theorem z_m1L : (-1 : Int64).toInt = -1 := by decide
theorem k128 (x : Int32) : sw_Cal (d + 1) 128 [.int x] M Q = if -1 ≤ x.toInt ∧ x.toInt ≤ 3 then Q (some (.int (nI 1))) M else Q (some (.int (nI 0))) M := by
  rw [c128]
  by_cases c1 : x.toInt < -1
  · rw [if_neg (by omega)]
    simp (disch := omega) only [s128_0, s128_1, s128_2, s128_5, s128_6, s128_7, s128_10, s128_11, s128_14, s128_15, z_lt_t, z_lt_f, z_le_t, z_le_f, z_lt0, z_ge0, z_cl, z_in, z_add, z_eq_f, z_ne0, z_00, z_10, z_01, z_11, z_neg1, z_nI_NONE, z_div, z_rem, z_rem2, sw_pu_s, sw_pu_n, true_and, and_true, true_or, or_true, if_true, if_false, not_true_eq_false, not_false_eq_true, z_ltm1, z_ltI, z_gtI, z_leI, z_geI, z_lt0I, z_ge0I, z_gt0I, z_le0I, z_ibI, Int32.toInt_zero, ↓if_pos, ↓if_neg]
  · by_cases c2 : (4 : Int) ≤ x.toInt
    · rw [if_neg (by omega)]
      simp (disch := omega) only [s128_0, s128_1, s128_2, s128_5, s128_6, s128_7, s128_10, s128_11, s128_14, s128_15, z_lt_t, z_lt_f, z_le_t, z_le_f, z_lt0, z_ge0, z_cl, z_in, z_add, z_eq_f, z_ne0, z_00, z_10, z_01, z_11, z_neg1, z_nI_NONE, z_div, z_rem, z_rem2, sw_pu_s, sw_pu_n, true_and, and_true, true_or, or_true, if_true, if_false, not_true_eq_false, not_false_eq_true, z_ltm1, z_ltI, z_gtI, z_leI, z_geI, z_lt0I, z_ge0I, z_gt0I, z_le0I, z_ibI, Int32.toInt_zero, ↓if_pos, ↓if_neg]
    · rw [if_pos (by omega)]
      simp (disch := omega) only [s128_0, s128_1, s128_2, s128_5, s128_6, s128_7, s128_10, s128_11, s128_14, s128_15, z_lt_t, z_lt_f, z_le_t, z_le_f, z_lt0, z_ge0, z_cl, z_in, z_add, z_eq_f, z_ne0, z_00, z_10, z_01, z_11, z_neg1, z_nI_NONE, z_div, z_rem, z_rem2, sw_pu_s, sw_pu_n, true_and, and_true, true_or, or_true, if_true, if_false, not_true_eq_false, not_false_eq_true, z_ltm1, z_ltI, z_gtI, z_leI, z_geI, z_lt0I, z_ge0I, z_gt0I, z_le0I, z_ibI, Int32.toInt_zero, ↓if_pos, ↓if_neg]
end MOP
