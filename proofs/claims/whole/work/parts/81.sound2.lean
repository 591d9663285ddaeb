abbrev sw_Q3 : Type := (Nat × List Value × List Value × sw_Mem) ⊕ (Option Value × sw_Mem) ⊕ (Nat × List Value × Nat × List Value × List Value)
def sw_Snd (k : Nat) : Prop := ∀ (p : Program) (l : Launch) (e : Env) (R : Room) (s : State) (m : MethodId) (args : Array Value) (below : List Frame) (meth : Method) (c : Code) (cells slots : Nat) (Q : State → Prop) (o : Nat) (cc : ByteArray) (nL : Nat) (ad : Nat → Nat) (G : sw_G) (D : va_G) (A : Nat → Prop) (M0 : sw_Mem) (d : Nat),
  sw_X p R s m args c o cc nL ad G D A M0 cells slots d → ∀ (pc len : Nat) (zs : List Int) (ns : List Nat), decode cc pc = .ok (sw_ins k pc zs ns, len) → sw_ok1 k o pc zs ns = true → (len = sw_len k ∨ sw_len k = 0) →
  ∀ (l0 : Array Slot) (ls st : List Value) (M : sw_Mem) (H : Heap) (locs : List Loc), sw_S ad G D A s M0 M H locs → sw_lr ad nL l0 ls → ∀ q : sw_Q3, sw_op k pc len zs ns ls st M = some q →
  ∃ pc' ls' st' M', q = .inl (pc', ls', st', M') ∧ ((∀ (l1 : Array Slot) (H1 : Heap) (locs1 : List Loc), sw_S ad G D A s M0 M' H1 locs1 → sw_lr ad nL l1 ls' → W p l e R s m args below meth c H1 locs1 cells slots Q (F0 m pc' l1 (st'.map (sw_cv ad)))) →
    W p l e R s m args below meth c H locs cells slots Q (F0 m pc l0 (st.map (sw_cv ad))))
theorem sw_len1 {len : Nat} (k n : Nat) (h : len = sw_len k ∨ sw_len k = 0) (hk : sw_len k = n) (h0 : n ≠ 0) : len = n := by
  rcases h with h | h
  · exact h.trans hk
  · exact absurd (hk.symm.trans h) h0
theorem sw_f4_val {ns : List Nat} (h : decide (sw_n ns 0 < 4) = true) : ((sw_f4 ns : Fin 4) : Nat) = sw_n ns 0 := Nat.mod_eq_of_lt (of_decide_eq_true h)

section INV
variable {pc len : Nat} {zs : List Int} {ns : List Nat} {ls st : List Value} {M : sw_Mem} {q : sw_Q3}
theorem sw_oIload_i (h : sw_oIload pc len zs ns ls st M = some q) : ∃ x, ls[sw_n ns 0]? = some (.int x) ∧ q = .inl (pc + len, ls, .int x :: st, M) := by
  unfold sw_oIload at h
  split at h
  · exact ⟨_, by assumption, sw_go_i h⟩
  · cases h
theorem sw_oLload_i (h : sw_oLload pc len zs ns ls st M = some q) : ∃ x, ls[sw_n ns 0]? = some (.long x) ∧ q = .inl (pc + len, ls, .long x :: st, M) := by
  unfold sw_oLload at h
  split at h
  · exact ⟨_, by assumption, sw_go_i h⟩
  · cases h
theorem sw_oAload_i (h : sw_oAload pc len zs ns ls st M = some q) : ∃ x, ls[sw_n ns 0]? = some (.ref x) ∧ q = .inl (pc + len, ls, .ref x :: st, M) := by
  unfold sw_oAload at h
  split at h
  · exact ⟨_, by assumption, sw_go_i h⟩
  · cases h
theorem sw_oIinc_i (h : sw_oIinc pc len zs ns ls st M = some q) : ∃ x, ls[sw_n ns 0]? = some (.int x) ∧ q = .inl (pc + len, sw_st1 (sw_n ns 0) (.int (x + Int32.ofInt (sw_z zs))) ls, st, M) := by
  unfold sw_oIinc at h
  split at h
  · exact ⟨_, by assumption, sw_go_i h⟩
  · cases h

theorem sw_oIstore_i (h : sw_oIstore pc len zs ns ls st M = some q) : ∃ x st1, st = .int x :: st1 ∧ sw_n ns 0 < ls.length ∧ q = .inl (pc + len, sw_st1 (sw_n ns 0) (.int x) ls, st1, M) := by
  unfold sw_oIstore at h
  split at h
  · split at h
    · rename_i hc
      exact ⟨_, _, rfl, hc, sw_go_i h⟩
    · cases h
  · cases h
theorem sw_oAstore_i (h : sw_oAstore pc len zs ns ls st M = some q) : ∃ x st1, st = .ref x :: st1 ∧ sw_n ns 0 < ls.length ∧ q = .inl (pc + len, sw_st1 (sw_n ns 0) (.ref x) ls, st1, M) := by
  unfold sw_oAstore at h
  split at h
  · split at h
    · rename_i hc
      exact ⟨_, _, rfl, hc, sw_go_i h⟩
    · cases h
  · cases h
theorem sw_oLstore_i (h : sw_oLstore pc len zs ns ls st M = some q) : ∃ x st1, st = .long x :: st1 ∧ sw_n ns 0 + 1 < ls.length ∧ q = .inl (pc + len, sw_st2 (sw_n ns 0) (.long x) ls, st1, M) := by
  unfold sw_oLstore at h
  split at h
  · split at h
    · rename_i hc
      exact ⟨_, _, rfl, hc, sw_go_i h⟩
    · cases h
  · cases h
theorem sw_oBin_i {f : Int32 → Int32 → Int32} (h : sw_oBin f pc len zs ns ls st M = some q) : ∃ y x st1, st = .int y :: .int x :: st1 ∧ q = .inl (pc + len, ls, .int (f x y) :: st1, M) := by
  unfold sw_oBin at h
  split at h
  · exact ⟨_, _, _, rfl, sw_go_i h⟩
  · cases h
theorem sw_oDiv_i {f : Int32 → Int32 → Int32} (h : sw_oDiv f pc len zs ns ls st M = some q) : ∃ y x st1, st = .int y :: .int x :: st1 ∧ (¬ y = 0) ∧ q = .inl (pc + len, ls, .int (f x y) :: st1, M) := by
  unfold sw_oDiv at h
  split at h
  · split at h
    · rename_i hc
      exact ⟨_, _, _, rfl, hc, sw_go_i h⟩
    · cases h
  · cases h
theorem sw_oUn_i {f : Int32 → Int32} (h : sw_oUn f pc len zs ns ls st M = some q) : ∃ x st1, st = .int x :: st1 ∧ q = .inl (pc + len, ls, .int (f x) :: st1, M) := by
  unfold sw_oUn at h
  split at h
  · exact ⟨_, _, rfl, sw_go_i h⟩
  · cases h
theorem sw_oLBin_i {f : Int64 → Int64 → Int64} (h : sw_oLBin f pc len zs ns ls st M = some q) : ∃ y x st1, st = .long y :: .long x :: st1 ∧ q = .inl (pc + len, ls, .long (f x y) :: st1, M) := by
  unfold sw_oLBin at h
  split at h
  · exact ⟨_, _, _, rfl, sw_go_i h⟩
  · cases h
theorem sw_oLrem_i (h : sw_oLrem pc len zs ns ls st M = some q) : ∃ y x st1, st = .long y :: .long x :: st1 ∧ (¬ y = 0) ∧ q = .inl (pc + len, ls, .long (x - x / y * y) :: st1, M) := by
  unfold sw_oLrem at h
  split at h
  · split at h
    · rename_i hc
      exact ⟨_, _, _, rfl, hc, sw_go_i h⟩
    · cases h
  · cases h
theorem sw_oLcmp_i (h : sw_oLcmp pc len zs ns ls st M = some q) : ∃ y x st1, st = .long y :: .long x :: st1 ∧ q = .inl (pc + len, ls, .int (lg_cmp x y) :: st1, M) := by
  unfold sw_oLcmp at h
  split at h
  · exact ⟨_, _, _, rfl, sw_go_i h⟩
  · cases h
theorem sw_oI2l_i (h : sw_oI2l pc len zs ns ls st M = some q) : ∃ x st1, st = .int x :: st1 ∧ q = .inl (pc + len, ls, .long x.toInt64 :: st1, M) := by
  unfold sw_oI2l at h
  split at h
  · exact ⟨_, _, rfl, sw_go_i h⟩
  · cases h
theorem sw_oL2i_i (h : sw_oL2i pc len zs ns ls st M = some q) : ∃ x st1, st = .long x :: st1 ∧ q = .inl (pc + len, ls, .int x.toInt32 :: st1, M) := by
  unfold sw_oL2i at h
  split at h
  · exact ⟨_, _, rfl, sw_go_i h⟩
  · cases h
theorem sw_oDup_i (h : sw_oDup pc len zs ns ls st M = some q) : ∃ v st1, st = v :: st1 ∧ v.category = 1 ∧ q = .inl (pc + len, ls, v :: v :: st1, M) := by
  unfold sw_oDup at h
  split at h
  · exact ⟨_, _, rfl, rfl, sw_go_i h⟩
  · exact ⟨_, _, rfl, rfl, sw_go_i h⟩
  · cases h
theorem sw_oDup2_i (h : sw_oDup2 pc len zs ns ls st M = some q) : ∃ x y st1, st = .int x :: .ref y :: st1 ∧ q = .inl (pc + len, ls, .int x :: .ref y :: .int x :: .ref y :: st1, M) := by
  unfold sw_oDup2 at h
  split at h
  · exact ⟨_, _, _, rfl, sw_go_i h⟩
  · cases h
theorem sw_oPop_i (h : sw_oPop pc len zs ns ls st M = some q) : ∃ v st1, st = v :: st1 ∧ v.category = 1 ∧ q = .inl (pc + len, ls, st1, M) := by
  unfold sw_oPop at h
  split at h
  · exact ⟨_, _, rfl, rfl, sw_go_i h⟩
  · exact ⟨_, _, rfl, rfl, sw_go_i h⟩
  · cases h
theorem sw_oIf_i {P : Int32 → Prop} [DecidablePred P] (h : sw_oIf P pc len zs ns ls st M = some q) : ∃ x st1, st = .int x :: st1 ∧ q = .inl (if P x then sw_n ns 0 else pc + len, ls, st1, M) := by
  unfold sw_oIf at h
  split at h
  · rename_i x st1
    refine ⟨_, _, rfl, ?_⟩
    by_cases hx : P x
    · rw [if_pos hx] at h ⊢
      exact sw_go_i h
    · rw [if_neg hx] at h ⊢
      exact sw_go_i h
  · cases h
theorem sw_oCmp_i {P : Int32 → Int32 → Prop} [∀ x y, Decidable (P x y)] (h : sw_oCmp P pc len zs ns ls st M = some q) : ∃ y x st1, st = .int y :: .int x :: st1 ∧ q = .inl (if P x y then sw_n ns 0 else pc + len, ls, st1, M) := by
  unfold sw_oCmp at h
  split at h
  · rename_i y x st1
    refine ⟨_, _, _, rfl, ?_⟩
    by_cases hx : P x y
    · rw [if_pos hx] at h ⊢
      exact sw_go_i h
    · rw [if_neg hx] at h ⊢
      exact sw_go_i h
  · cases h
theorem sw_oSwitch_i (h : sw_oSwitch pc len zs ns ls st M = some q) : ∃ x st1, st = .int x :: st1 ∧ q = .inl (sw_pick zs ns x.toInt, ls, st1, M) := by
  unfold sw_oSwitch at h
  split at h
  · exact ⟨_, _, rfl, sw_go_i h⟩
  · cases h
theorem sw_oGetf_i (h : sw_oGetf pc len zs ns ls st M = some q) : ∃ ob st1, st = .ref ob :: st1 ∧ sw_kd ob = sw_n ns 1 ∧ q = .inl (pc + len, ls, sw_gf (sw_n ns 1) (sw_n ns 2) ob M :: st1, M) := by
  unfold sw_oGetf at h
  split at h
  · split at h
    · rename_i hc
      exact ⟨_, _, rfl, hc, sw_go_i h⟩
    · cases h
  · cases h
theorem sw_oPutf_i (h : sw_oPutf pc len zs ns ls st M = some q) : ∃ v ob st1, st = .int v :: .ref ob :: st1 ∧ sw_kd ob = sw_n ns 1 ∧ q = .inl (pc + len, ls, st1, sw_up M ob (sw_n ns 2) v) := by
  unfold sw_oPutf at h
  split at h
  · split at h
    · rename_i hc
      exact ⟨_, _, _, rfl, hc, sw_go_i h⟩
    · cases h
  · cases h
theorem sw_oPutz_i (h : sw_oPutz pc len zs ns ls st M = some q) : ∃ v ob st1, st = .int v :: .ref ob :: st1 ∧ (sw_kd ob = sw_n ns 1 ∧ (v = 0 ∨ v = 1)) ∧ q = .inl (pc + len, ls, st1, sw_up M ob (sw_n ns 2) v) := by
  unfold sw_oPutz at h
  split at h
  · split at h
    · rename_i hc
      exact ⟨_, _, _, rfl, hc, sw_go_i h⟩
    · cases h
  · cases h
theorem sw_oPutr_i (h : sw_oPutr pc len zs ns ls st M = some q) : ∃ t ob st1, st = .ref t :: .ref ob :: st1 ∧ (sw_kd ob = sw_n ns 1 ∧ sw_kd t = 6) ∧ q = .inl (pc + len, ls, st1, sw_up M ob (sw_n ns 2) (nI t)) := by
  unfold sw_oPutr at h
  split at h
  · split at h
    · rename_i hc
      exact ⟨_, _, _, rfl, hc, sw_go_i h⟩
    · cases h
  · cases h
theorem sw_oIald_i (h : sw_oIald pc len zs ns ls st M = some q) : ∃ i b st1, st = .int i :: .ref b :: st1 ∧ (sw_kd b = 10 ∧ sw_ib i (sw_ln b)) ∧ q = .inl (pc + len, ls, .int (M b i.toNatClampNeg) :: st1, M) := by
  unfold sw_oIald at h
  split at h
  · split at h
    · rename_i hc
      exact ⟨_, _, _, rfl, hc, sw_go_i h⟩
    · cases h
  · cases h
theorem sw_oIaldR_i (h : sw_oIaldR pc len zs ns ls st M = some q) : ∃ i b st1, st = .int i :: .ref b :: st1 ∧ (sw_kd b = 14 ∧ sw_ib i (sw_rl M b)) ∧ q = .inl (pc + len, ls, .int (M b i.toNatClampNeg) :: st1, M) := by
  unfold sw_oIaldR at h
  split at h
  · split at h
    · rename_i hc
      exact ⟨_, _, _, rfl, hc, sw_go_i h⟩
    · cases h
  · cases h
theorem sw_oIast_i (h : sw_oIast pc len zs ns ls st M = some q) : ∃ x i b st1, st = .int x :: .int i :: .ref b :: st1 ∧ (sw_kd b = 10 ∧ sw_ib i (sw_ln b)) ∧ q = .inl (pc + len, ls, st1, sw_up M b i.toNatClampNeg x) := by
  unfold sw_oIast at h
  split at h
  · split at h
    · rename_i hc
      exact ⟨_, _, _, _, rfl, hc, sw_go_i h⟩
    · cases h
  · cases h
theorem sw_oAald_i (h : sw_oAald pc len zs ns ls st M = some q) : ∃ i b st1, st = .int i :: .ref b :: st1 ∧ ((sw_kd b = 12 ∨ sw_kd b = 13) ∧ sw_ib i (sw_ln b)) ∧ q = .inl (pc + len, ls, .ref (sw_rt b i.toNatClampNeg) :: st1, M) := by
  unfold sw_oAald at h
  split at h
  · split at h
    · rename_i hc
      exact ⟨_, _, _, rfl, hc, sw_go_i h⟩
    · cases h
  · cases h
theorem sw_oBald_i (h : sw_oBald pc len zs ns ls st M = some q) : ∃ i b st1, st = .int i :: .ref b :: st1 ∧ (sw_kd b = 11 ∧ sw_ib i (sw_ln b)) ∧ q = .inl (pc + len, ls, .int (M b i.toNatClampNeg) :: st1, M) := by
  unfold sw_oBald at h
  split at h
  · split at h
    · rename_i hc
      exact ⟨_, _, _, rfl, hc, sw_go_i h⟩
    · cases h
  · cases h
theorem sw_oBast_i (h : sw_oBast pc len zs ns ls st M = some q) : ∃ x i b st1, st = .int x :: .int i :: .ref b :: st1 ∧ ((sw_kd b = 11 ∧ (x = 0 ∨ x = 1)) ∧ sw_ib i (sw_ln b)) ∧ q = .inl (pc + len, ls, st1, sw_up M b i.toNatClampNeg x) := by
  unfold sw_oBast at h
  split at h
  · split at h
    · rename_i hc
      exact ⟨_, _, _, _, rfl, hc, sw_go_i h⟩
    · cases h
  · cases h
theorem sw_oAlen_i (h : sw_oAlen pc len zs ns ls st M = some q) : ∃ b st1, st = .ref b :: st1 ∧ sw_kd b = 10 ∧ q = .inl (pc + len, ls, .int (nI (sw_ln b)) :: st1, M) := by
  unfold sw_oAlen at h
  split at h
  · split at h
    · rename_i hc
      exact ⟨_, _, rfl, hc, sw_go_i h⟩
    · cases h
  · cases h
theorem sw_oAlenR_i (h : sw_oAlenR pc len zs ns ls st M = some q) : ∃ b st1, st = .ref b :: st1 ∧ sw_kd b = 14 ∧ q = .inl (pc + len, ls, .int (nI (sw_rl M b)) :: st1, M) := by
  unfold sw_oAlenR at h
  split at h
  · split at h
    · rename_i hc
      exact ⟨_, _, rfl, hc, sw_go_i h⟩
    · cases h
  · cases h
theorem sw_oCopy_i (h : sw_oCopy pc len zs ns ls st M = some q) : ∃ n dp b sp g st1, st = .int n :: .int dp :: .ref b :: .int sp :: .ref g :: st1 ∧ (((sw_kd g = 10 ∧ sw_kd b = 10) ∧ (¬ sp < 0 ∧ ¬ dp < 0 ∧ ¬ n < 0) ∧ sp.toNatClampNeg + n.toNatClampNeg ≤ sw_ln g ∧ dp.toNatClampNeg + n.toNatClampNeg ≤ sw_ln b) ∧ sw_sum st1 ≤ 8) ∧ q = .inl (pc + len, ls, st1, sw_set M b (va_cpy (M g) (M b) sp.toNatClampNeg dp.toNatClampNeg n.toNatClampNeg)) := by
  unfold sw_oCopy at h
  split at h
  · split at h
    · rename_i hc
      exact ⟨_, _, _, _, _, _, rfl, hc, sw_go_i h⟩
    · cases h
  · cases h
theorem sw_oMax_i (h : sw_oMax pc len zs ns ls st M = some q) : ∃ y x st1, st = .int y :: .int x :: st1 ∧ sw_sum st1 ≤ 8 ∧ q = .inl (pc + len, ls, .int (if x < y then y else x) :: st1, M) := by
  unfold sw_oMax at h
  split at h
  · split at h
    · rename_i hc
      exact ⟨_, _, _, rfl, hc, sw_go_i h⟩
    · cases h
  · cases h
theorem sw_oMin_i (h : sw_oMin pc len zs ns ls st M = some q) : ∃ y x st1, st = .int y :: .int x :: st1 ∧ sw_sum st1 ≤ 8 ∧ q = .inl (pc + len, ls, .int (if y < x then y else x) :: st1, M) := by
  unfold sw_oMin at h
  split at h
  · split at h
    · rename_i hc
      exact ⟨_, _, _, rfl, hc, sw_go_i h⟩
    · cases h
  · cases h
theorem sw_oAbs_i (h : sw_oAbs pc len zs ns ls st M = some q) : ∃ x st1, st = .int x :: st1 ∧ sw_sum st1 ≤ 8 ∧ q = .inl (pc + len, ls, .int (if 0 ≤ x then x else 0 - x) :: st1, M) := by
  unfold sw_oAbs at h
  split at h
  · split at h
    · rename_i hc
      exact ⟨_, _, rfl, hc, sw_go_i h⟩
    · cases h
  · cases h
theorem sw_oIret_i (h : sw_oIret pc len zs ns ls st M = some q) : ∃ x, st = [.int x] ∧ q = .inr (.inl (some (.int x), M)) := by
  unfold sw_oIret at h
  split at h
  · exact ⟨_, rfl, (Option.some.inj h).symm⟩
  · cases h
theorem sw_oZret_i (h : sw_oZret pc len zs ns ls st M = some q) : ∃ x, st = [.int x] ∧ (x = 0 ∨ x = 1) ∧ q = .inr (.inl (some (.int x), M)) := by
  unfold sw_oZret at h
  split at h
  · split at h
    · rename_i hc
      exact ⟨_, rfl, hc, (Option.some.inj h).symm⟩
    · cases h
  · cases h
theorem sw_oAret_i (h : sw_oAret pc len zs ns ls st M = some q) : ∃ x, st = [.ref x] ∧ q = .inr (.inl (some (.ref x), M)) := by
  unfold sw_oAret at h
  split at h
  · exact ⟨_, rfl, (Option.some.inj h).symm⟩
  · cases h
theorem sw_oVret_i (h : sw_oVret pc len zs ns ls st M = some q) : st = [] ∧ q = .inr (.inl (none, M)) := by
  unfold sw_oVret at h
  split at h
  · exact ⟨rfl, (Option.some.inj h).symm⟩
  · cases h
end INV
theorem sw_sum_cv (ad : Nat → Nat) (st : List Value) : ((st.map (sw_cv ad)).map fun v => v.category).sum = sw_sum st := by
  unfold sw_sum
  congr 1
  rw [List.map_map]
  apply List.map_congr_left
  intro v _
  exact sw_cv_cat ad v
theorem sw_w_stat {w : Cond} (h : (lw_tbl.contains w && goodWord w) = true) : w ∈ sw_gt := by
  rw [Bool.and_eq_true] at h
  exact sw_gt_of (by simpa using h.1) h.2
theorem sw_s0 : sw_Snd 0 := by
  intro p l e R s m args below meth c cells slots Q o cc nL ad G D A M0 d X pc len zs ns hdg hok hlen l0 ls st M H locs hS hl q hop
  obtain ⟨hx, hb, hml, hown, hts, hK, hA, hRO, hf, hlo, hce, hsl⟩ := X
  obtain rfl : len = 1 := sw_len1 0 1 hlen rfl (by decide)
  have hdg : decode cc pc = .ok (.iconst (sw_z zs), 1) := hdg
  obtain rfl := sw_go_i hop
  refine ⟨_, _, _, _, rfl, fun kk => ?_⟩
  exact lv_iconst hx hb hdg rfl (kk _ _ _ hS hl)
theorem sw_s1 : sw_Snd 1 := by
  intro p l e R s m args below meth c cells slots Q o cc nL ad G D A M0 d X pc len zs ns hdg hok hlen l0 ls st M H locs hS hl q hop
  obtain ⟨hx, hb, hml, hown, hts, hK, hA, hRO, hf, hlo, hce, hsl⟩ := X
  obtain rfl : len = 2 := sw_len1 1 2 hlen rfl (by decide)
  have hdg : decode cc pc = .ok (.bipush (sw_z zs), 2) := hdg
  obtain rfl := sw_go_i hop
  refine ⟨_, _, _, _, rfl, fun kk => ?_⟩
  exact lv_bipush hx hb hdg rfl (kk _ _ _ hS hl)
theorem sw_s2 : sw_Snd 2 := by
  intro p l e R s m args below meth c cells slots Q o cc nL ad G D A M0 d X pc len zs ns hdg hok hlen l0 ls st M H locs hS hl q hop
  obtain ⟨hx, hb, hml, hown, hts, hK, hA, hRO, hf, hlo, hce, hsl⟩ := X
  obtain rfl : len = 3 := sw_len1 2 3 hlen rfl (by decide)
  have hdg : decode cc pc = .ok (.sipush (sw_z zs), 3) := hdg
  obtain rfl := sw_go_i hop
  refine ⟨_, _, _, _, rfl, fun kk => ?_⟩
  exact lv_sipush hx hb hdg rfl (kk _ _ _ hS hl)
theorem sw_s3 : sw_Snd 3 := by
  intro p l e R s m args below meth c cells slots Q o cc nL ad G D A M0 d X pc len zs ns hdg hok hlen l0 ls st M H locs hS hl q hop
  obtain ⟨hx, hb, hml, hown, hts, hK, hA, hRO, hf, hlo, hce, hsl⟩ := X
  obtain rfl : len = 2 := sw_len1 3 2 hlen rfl (by decide)
  have hdg : decode cc pc = .ok (.ldc (sw_n ns 0), 2) := hdg
  obtain rfl := sw_go_i hop
  refine ⟨_, _, _, _, rfl, fun kk => ?_⟩
  exact lv_ldc hx hb hown (hts _ (sw_w_mem (i := 1) hok)) hdg (kk _ _ _ hS hl)
theorem sw_s4 : sw_Snd 4 := by
  intro p l e R s m args below meth c cells slots Q o cc nL ad G D A M0 d X pc len zs ns hdg hok hlen l0 ls st M H locs hS hl q hop
  obtain ⟨hx, hb, hml, hown, hts, hK, hA, hRO, hf, hlo, hce, hsl⟩ := X
  obtain rfl : len = 3 := sw_len1 4 3 hlen rfl (by decide)
  have hdg : decode cc pc = .ok (.ldc_w (sw_n ns 0), 3) := hdg
  obtain rfl := sw_go_i hop
  refine ⟨_, _, _, _, rfl, fun kk => ?_⟩
  exact lv_ldcw hx hb hown (hts _ (sw_w_mem (i := 1) hok)) hdg (kk _ _ _ hS hl)
theorem sw_s5 : sw_Snd 5 := by
  intro p l e R s m args below meth c cells slots Q o cc nL ad G D A M0 d X pc len zs ns hdg hok hlen l0 ls st M H locs hS hl q hop
  obtain ⟨hx, hb, hml, hown, hts, hK, hA, hRO, hf, hlo, hce, hsl⟩ := X
  obtain rfl : len = 3 := sw_len1 5 3 hlen rfl (by decide)
  have hdg : decode cc pc = .ok (.ldc2_w (sw_n ns 0), 3) := hdg
  obtain rfl := sw_go_i hop
  refine ⟨_, _, _, _, rfl, fun kk => ?_⟩
  exact lv_ldc2 hx hb hown (hts _ (sw_w_mem (i := 1) hok)) hdg (kk _ _ _ hS hl)
theorem sw_s6 : sw_Snd 6 := by
  intro p l e R s m args below meth c cells slots Q o cc nL ad G D A M0 d X pc len zs ns hdg hok hlen l0 ls st M H locs hS hl q hop
  obtain ⟨hx, hb, hml, hown, hts, hK, hA, hRO, hf, hlo, hce, hsl⟩ := X
  obtain rfl : len = 1 := sw_len1 6 1 hlen rfl (by decide)
  have hdg : decode cc pc = .ok (.lconst (Fin.ofNat 2 (sw_n ns 0)), 1) := hdg
  obtain rfl := sw_go_i hop
  refine ⟨_, _, _, _, rfl, fun kk => ?_⟩
  have h2 : sw_n ns 0 < 2 := of_decide_eq_true hok
  exact lv_lconst hx hb hdg (by show Int64.ofNat (sw_n ns 0 % 2) = _; rw [Nat.mod_eq_of_lt h2]) (kk _ _ _ hS hl)
theorem sw_s7 : sw_Snd 7 := by
  intro p l e R s m args below meth c cells slots Q o cc nL ad G D A M0 d X pc len zs ns hdg hok hlen l0 ls st M H locs hS hl q hop
  obtain ⟨hx, hb, hml, hown, hts, hK, hA, hRO, hf, hlo, hce, hsl⟩ := X
  obtain rfl : len = 1 := sw_len1 7 1 hlen rfl (by decide)
  have hdg : decode cc pc = .ok (.iload_n (sw_f4 ns), 1) := hdg
  have hop : (sw_oIload) pc 1 zs ns ls st M = some q := hop
  obtain ⟨x, hq, rfl⟩ := sw_oIload_i hop
  refine ⟨_, _, _, _, rfl, fun kk => ?_⟩
  exact lv_iload_n hx hb hdg (sw_f4_val hok) (sw_lr_get hl hq (by simp)) (kk _ _ _ hS hl)
theorem sw_s9 : sw_Snd 9 := by
  intro p l e R s m args below meth c cells slots Q o cc nL ad G D A M0 d X pc len zs ns hdg hok hlen l0 ls st M H locs hS hl q hop
  obtain ⟨hx, hb, hml, hown, hts, hK, hA, hRO, hf, hlo, hce, hsl⟩ := X
  obtain rfl : len = 1 := sw_len1 9 1 hlen rfl (by decide)
  have hdg : decode cc pc = .ok (.lload_n (sw_f4 ns), 1) := hdg
  have hop : (sw_oLload) pc 1 zs ns ls st M = some q := hop
  obtain ⟨x, hq, rfl⟩ := sw_oLload_i hop
  refine ⟨_, _, _, _, rfl, fun kk => ?_⟩
  exact lv_lload_n hx hb hdg (sw_f4_val hok) (sw_lr_get hl hq (by simp)) (kk _ _ _ hS hl)
theorem sw_s11 : sw_Snd 11 := by
  intro p l e R s m args below meth c cells slots Q o cc nL ad G D A M0 d X pc len zs ns hdg hok hlen l0 ls st M H locs hS hl q hop
  obtain ⟨hx, hb, hml, hown, hts, hK, hA, hRO, hf, hlo, hce, hsl⟩ := X
  obtain rfl : len = 1 := sw_len1 11 1 hlen rfl (by decide)
  have hdg : decode cc pc = .ok (.aload_n (sw_f4 ns), 1) := hdg
  have hop : (sw_oAload) pc 1 zs ns ls st M = some q := hop
  obtain ⟨x, hq, rfl⟩ := sw_oAload_i hop
  refine ⟨_, _, _, _, rfl, fun kk => ?_⟩
  exact lv_aload_n hx hb hdg (sw_f4_val hok) (sw_lr_get hl hq (by simp)) (kk _ _ _ hS hl)
theorem sw_s8 : sw_Snd 8 := by
  intro p l e R s m args below meth c cells slots Q o cc nL ad G D A M0 d X pc len zs ns hdg hok hlen l0 ls st M H locs hS hl q hop
  obtain ⟨hx, hb, hml, hown, hts, hK, hA, hRO, hf, hlo, hce, hsl⟩ := X
  obtain rfl : len = 2 := sw_len1 8 2 hlen rfl (by decide)
  have hdg : decode cc pc = .ok (.iload (sw_n ns 0), 2) := hdg
  have hop : (sw_oIload) pc 2 zs ns ls st M = some q := hop
  obtain ⟨x, hq, rfl⟩ := sw_oIload_i hop
  refine ⟨_, _, _, _, rfl, fun kk => ?_⟩
  exact lv_iload hx hb hdg (sw_lr_get hl hq (by simp)) (kk _ _ _ hS hl)
theorem sw_s10 : sw_Snd 10 := by
  intro p l e R s m args below meth c cells slots Q o cc nL ad G D A M0 d X pc len zs ns hdg hok hlen l0 ls st M H locs hS hl q hop
  obtain ⟨hx, hb, hml, hown, hts, hK, hA, hRO, hf, hlo, hce, hsl⟩ := X
  obtain rfl : len = 2 := sw_len1 10 2 hlen rfl (by decide)
  have hdg : decode cc pc = .ok (.lload (sw_n ns 0), 2) := hdg
  have hop : (sw_oLload) pc 2 zs ns ls st M = some q := hop
  obtain ⟨x, hq, rfl⟩ := sw_oLload_i hop
  refine ⟨_, _, _, _, rfl, fun kk => ?_⟩
  exact lv_lload hx hb hdg (sw_lr_get hl hq (by simp)) (kk _ _ _ hS hl)
theorem sw_s12 : sw_Snd 12 := by
  intro p l e R s m args below meth c cells slots Q o cc nL ad G D A M0 d X pc len zs ns hdg hok hlen l0 ls st M H locs hS hl q hop
  obtain ⟨hx, hb, hml, hown, hts, hK, hA, hRO, hf, hlo, hce, hsl⟩ := X
  obtain rfl : len = 1 := sw_len1 12 1 hlen rfl (by decide)
  have hdg : decode cc pc = .ok (.istore_n (sw_f4 ns), 1) := hdg
  have hop : (sw_oIstore) pc 1 zs ns ls st M = some q := hop
  obtain ⟨x, st1, rfl, hi, rfl⟩ := sw_oIstore_i hop
  refine ⟨_, _, _, _, rfl, fun kk => ?_⟩
  obtain ⟨lv, h1, h2, h3⟩ := hl
  exact lv_istore_n hx hb hdg (sw_f4_val hok) h1 (by omega) rfl (fun l1 hl1 => kk l1 _ _ hS (sw_lr_s1 h2 h3 (by omega) hl1))
theorem sw_s15 : sw_Snd 15 := by
  intro p l e R s m args below meth c cells slots Q o cc nL ad G D A M0 d X pc len zs ns hdg hok hlen l0 ls st M H locs hS hl q hop
  obtain ⟨hx, hb, hml, hown, hts, hK, hA, hRO, hf, hlo, hce, hsl⟩ := X
  obtain rfl : len = 1 := sw_len1 15 1 hlen rfl (by decide)
  have hdg : decode cc pc = .ok (.astore_n (sw_f4 ns), 1) := hdg
  have hop : (sw_oAstore) pc 1 zs ns ls st M = some q := hop
  obtain ⟨x, st1, rfl, hi, rfl⟩ := sw_oAstore_i hop
  refine ⟨_, _, _, _, rfl, fun kk => ?_⟩
  obtain ⟨lv, h1, h2, h3⟩ := hl
  exact lv_astore_n hx hb hdg (sw_f4_val hok) h1 (by omega) rfl (fun l1 hl1 => kk l1 _ _ hS (sw_lr_s1 h2 h3 (by omega) hl1))
theorem sw_s13 : sw_Snd 13 := by
  intro p l e R s m args below meth c cells slots Q o cc nL ad G D A M0 d X pc len zs ns hdg hok hlen l0 ls st M H locs hS hl q hop
  obtain ⟨hx, hb, hml, hown, hts, hK, hA, hRO, hf, hlo, hce, hsl⟩ := X
  obtain rfl : len = 2 := sw_len1 13 2 hlen rfl (by decide)
  have hdg : decode cc pc = .ok (.istore (sw_n ns 0), 2) := hdg
  have hop : (sw_oIstore) pc 2 zs ns ls st M = some q := hop
  obtain ⟨x, st1, rfl, hi, rfl⟩ := sw_oIstore_i hop
  refine ⟨_, _, _, _, rfl, fun kk => ?_⟩
  obtain ⟨lv, h1, h2, h3⟩ := hl
  exact lv_istore hx hb hdg h1 (by omega) rfl (fun l1 hl1 => kk l1 _ _ hS (sw_lr_s1 h2 h3 (by omega) hl1))
theorem sw_s14 : sw_Snd 14 := by
  intro p l e R s m args below meth c cells slots Q o cc nL ad G D A M0 d X pc len zs ns hdg hok hlen l0 ls st M H locs hS hl q hop
  obtain ⟨hx, hb, hml, hown, hts, hK, hA, hRO, hf, hlo, hce, hsl⟩ := X
  obtain rfl : len = 2 := sw_len1 14 2 hlen rfl (by decide)
  have hdg : decode cc pc = .ok (.lstore (sw_n ns 0), 2) := hdg
  have hop : (sw_oLstore) pc 2 zs ns ls st M = some q := hop
  obtain ⟨x, st1, rfl, hi, rfl⟩ := sw_oLstore_i hop
  refine ⟨_, _, _, _, rfl, fun kk => ?_⟩
  obtain ⟨lv, h1, h2, h3⟩ := hl
  exact lv_lstore hx hb hdg h1 (by omega) rfl (fun l1 hl1 => kk l1 _ _ hS (sw_lr_s2 h2 h3 (by omega) hl1))
theorem sw_s16 : sw_Snd 16 := by
  intro p l e R s m args below meth c cells slots Q o cc nL ad G D A M0 d X pc len zs ns hdg hok hlen l0 ls st M H locs hS hl q hop
  obtain ⟨hx, hb, hml, hown, hts, hK, hA, hRO, hf, hlo, hce, hsl⟩ := X
  obtain rfl : len = 3 := sw_len1 16 3 hlen rfl (by decide)
  have hdg : decode cc pc = .ok (.iinc (sw_n ns 0) (sw_z zs), 3) := hdg
  have hop : (sw_oIinc) pc 3 zs ns ls st M = some q := hop
  obtain ⟨x, hq, rfl⟩ := sw_oIinc_i hop
  refine ⟨_, _, _, _, rfl, fun kk => ?_⟩
  obtain ⟨lv, h1, h2, h3⟩ := hl
  obtain ⟨kp, hkp⟩ := List.getElem?_of_mem (h3 _ _ hq (by simp))
  have hi := (List.getElem?_eq_some_iff.mp hq).1
  exact lv_iinc hx hb hdg h1 hkp rfl (by omega) rfl (fun l1 hl1 => kk l1 _ _ hS (sw_lr_s1 h2 h3 (by omega) hl1))
theorem sw_s17 : sw_Snd 17 := by
  intro p l e R s m args below meth c cells slots Q o cc nL ad G D A M0 d X pc len zs ns hdg hok hlen l0 ls st M H locs hS hl q hop
  obtain ⟨hx, hb, hml, hown, hts, hK, hA, hRO, hf, hlo, hce, hsl⟩ := X
  obtain rfl : len = 1 := sw_len1 17 1 hlen rfl (by decide)
  have hdg : decode cc pc = .ok (.iadd, 1) := hdg
  have hop : (sw_oBin (fun x y => x + y)) pc 1 zs ns ls st M = some q := hop
  obtain ⟨y, x, st1, rfl, rfl⟩ := sw_oBin_i hop
  refine ⟨_, _, _, _, rfl, fun kk => ?_⟩
  exact lv_iadd hx hb hdg (kk _ _ _ hS hl)
theorem sw_s18 : sw_Snd 18 := by
  intro p l e R s m args below meth c cells slots Q o cc nL ad G D A M0 d X pc len zs ns hdg hok hlen l0 ls st M H locs hS hl q hop
  obtain ⟨hx, hb, hml, hown, hts, hK, hA, hRO, hf, hlo, hce, hsl⟩ := X
  obtain rfl : len = 1 := sw_len1 18 1 hlen rfl (by decide)
  have hdg : decode cc pc = .ok (.isub, 1) := hdg
  have hop : (sw_oBin (fun x y => x - y)) pc 1 zs ns ls st M = some q := hop
  obtain ⟨y, x, st1, rfl, rfl⟩ := sw_oBin_i hop
  refine ⟨_, _, _, _, rfl, fun kk => ?_⟩
  exact lv_isub hx hb hdg (kk _ _ _ hS hl)
theorem sw_s19 : sw_Snd 19 := by
  intro p l e R s m args below meth c cells slots Q o cc nL ad G D A M0 d X pc len zs ns hdg hok hlen l0 ls st M H locs hS hl q hop
  obtain ⟨hx, hb, hml, hown, hts, hK, hA, hRO, hf, hlo, hce, hsl⟩ := X
  obtain rfl : len = 1 := sw_len1 19 1 hlen rfl (by decide)
  have hdg : decode cc pc = .ok (.imul, 1) := hdg
  have hop : (sw_oBin (fun x y => x * y)) pc 1 zs ns ls st M = some q := hop
  obtain ⟨y, x, st1, rfl, rfl⟩ := sw_oBin_i hop
  refine ⟨_, _, _, _, rfl, fun kk => ?_⟩
  exact lv_imul hx hb hdg (kk _ _ _ hS hl)
theorem sw_s23 : sw_Snd 23 := by
  intro p l e R s m args below meth c cells slots Q o cc nL ad G D A M0 d X pc len zs ns hdg hok hlen l0 ls st M H locs hS hl q hop
  obtain ⟨hx, hb, hml, hown, hts, hK, hA, hRO, hf, hlo, hce, hsl⟩ := X
  obtain rfl : len = 1 := sw_len1 23 1 hlen rfl (by decide)
  have hdg : decode cc pc = .ok (.iand, 1) := hdg
  have hop : (sw_oBin (fun x y => x &&& y)) pc 1 zs ns ls st M = some q := hop
  obtain ⟨y, x, st1, rfl, rfl⟩ := sw_oBin_i hop
  refine ⟨_, _, _, _, rfl, fun kk => ?_⟩
  exact lv_iand hx hb hdg (kk _ _ _ hS hl)
theorem sw_s24 : sw_Snd 24 := by
  intro p l e R s m args below meth c cells slots Q o cc nL ad G D A M0 d X pc len zs ns hdg hok hlen l0 ls st M H locs hS hl q hop
  obtain ⟨hx, hb, hml, hown, hts, hK, hA, hRO, hf, hlo, hce, hsl⟩ := X
  obtain rfl : len = 1 := sw_len1 24 1 hlen rfl (by decide)
  have hdg : decode cc pc = .ok (.ior, 1) := hdg
  have hop : (sw_oBin (fun x y => x ||| y)) pc 1 zs ns ls st M = some q := hop
  obtain ⟨y, x, st1, rfl, rfl⟩ := sw_oBin_i hop
  refine ⟨_, _, _, _, rfl, fun kk => ?_⟩
  exact lv_ior hx hb hdg (kk _ _ _ hS hl)
theorem sw_s25 : sw_Snd 25 := by
  intro p l e R s m args below meth c cells slots Q o cc nL ad G D A M0 d X pc len zs ns hdg hok hlen l0 ls st M H locs hS hl q hop
  obtain ⟨hx, hb, hml, hown, hts, hK, hA, hRO, hf, hlo, hce, hsl⟩ := X
  obtain rfl : len = 1 := sw_len1 25 1 hlen rfl (by decide)
  have hdg : decode cc pc = .ok (.ishl, 1) := hdg
  have hop : (sw_oBin (fun x y => x <<< (y &&& 31))) pc 1 zs ns ls st M = some q := hop
  obtain ⟨y, x, st1, rfl, rfl⟩ := sw_oBin_i hop
  refine ⟨_, _, _, _, rfl, fun kk => ?_⟩
  exact lv_ishl hx hb hdg (kk _ _ _ hS hl)
theorem sw_s26 : sw_Snd 26 := by
  intro p l e R s m args below meth c cells slots Q o cc nL ad G D A M0 d X pc len zs ns hdg hok hlen l0 ls st M H locs hS hl q hop
  obtain ⟨hx, hb, hml, hown, hts, hK, hA, hRO, hf, hlo, hce, hsl⟩ := X
  obtain rfl : len = 1 := sw_len1 26 1 hlen rfl (by decide)
  have hdg : decode cc pc = .ok (.ishr, 1) := hdg
  have hop : (sw_oBin (fun x y => x >>> (y &&& 31))) pc 1 zs ns ls st M = some q := hop
  obtain ⟨y, x, st1, rfl, rfl⟩ := sw_oBin_i hop
  refine ⟨_, _, _, _, rfl, fun kk => ?_⟩
  exact lv_ishr hx hb hdg (kk _ _ _ hS hl)
theorem sw_s20 : sw_Snd 20 := by
  intro p l e R s m args below meth c cells slots Q o cc nL ad G D A M0 d X pc len zs ns hdg hok hlen l0 ls st M H locs hS hl q hop
  obtain ⟨hx, hb, hml, hown, hts, hK, hA, hRO, hf, hlo, hce, hsl⟩ := X
  obtain rfl : len = 1 := sw_len1 20 1 hlen rfl (by decide)
  have hdg : decode cc pc = .ok (.idiv, 1) := hdg
  have hop : (sw_oDiv (fun x y => x / y)) pc 1 zs ns ls st M = some q := hop
  obtain ⟨y, x, st1, rfl, hy, rfl⟩ := sw_oDiv_i hop
  refine ⟨_, _, _, _, rfl, fun kk => ?_⟩
  exact lv_idiv hx hb hdg hy (kk _ _ _ hS hl)
theorem sw_s21 : sw_Snd 21 := by
  intro p l e R s m args below meth c cells slots Q o cc nL ad G D A M0 d X pc len zs ns hdg hok hlen l0 ls st M H locs hS hl q hop
  obtain ⟨hx, hb, hml, hown, hts, hK, hA, hRO, hf, hlo, hce, hsl⟩ := X
  obtain rfl : len = 1 := sw_len1 21 1 hlen rfl (by decide)
  have hdg : decode cc pc = .ok (.irem, 1) := hdg
  have hop : (sw_oDiv (fun x y => x - x / y * y)) pc 1 zs ns ls st M = some q := hop
  obtain ⟨y, x, st1, rfl, hy, rfl⟩ := sw_oDiv_i hop
  refine ⟨_, _, _, _, rfl, fun kk => ?_⟩
  exact lv_irem hx hb hdg hy (kk _ _ _ hS hl)
theorem sw_s22 : sw_Snd 22 := by
  intro p l e R s m args below meth c cells slots Q o cc nL ad G D A M0 d X pc len zs ns hdg hok hlen l0 ls st M H locs hS hl q hop
  obtain ⟨hx, hb, hml, hown, hts, hK, hA, hRO, hf, hlo, hce, hsl⟩ := X
  obtain rfl : len = 1 := sw_len1 22 1 hlen rfl (by decide)
  have hdg : decode cc pc = .ok (.ineg, 1) := hdg
  have hop : (sw_oUn (fun x => -x)) pc 1 zs ns ls st M = some q := hop
  obtain ⟨x, st1, rfl, rfl⟩ := sw_oUn_i hop
  refine ⟨_, _, _, _, rfl, fun kk => ?_⟩
  exact lv_ineg hx hb hdg (kk _ _ _ hS hl)
theorem sw_s33 : sw_Snd 33 := by
  intro p l e R s m args below meth c cells slots Q o cc nL ad G D A M0 d X pc len zs ns hdg hok hlen l0 ls st M H locs hS hl q hop
  obtain ⟨hx, hb, hml, hown, hts, hK, hA, hRO, hf, hlo, hce, hsl⟩ := X
  obtain rfl : len = 1 := sw_len1 33 1 hlen rfl (by decide)
  have hdg : decode cc pc = .ok (.i2b, 1) := hdg
  have hop : (sw_oUn (fun x => x.toInt8.toInt32)) pc 1 zs ns ls st M = some q := hop
  obtain ⟨x, st1, rfl, rfl⟩ := sw_oUn_i hop
  refine ⟨_, _, _, _, rfl, fun kk => ?_⟩
  exact lv_i2b hx hb hdg rfl (kk _ _ _ hS hl)
theorem sw_s34 : sw_Snd 34 := by
  intro p l e R s m args below meth c cells slots Q o cc nL ad G D A M0 d X pc len zs ns hdg hok hlen l0 ls st M H locs hS hl q hop
  obtain ⟨hx, hb, hml, hown, hts, hK, hA, hRO, hf, hlo, hce, hsl⟩ := X
  obtain rfl : len = 1 := sw_len1 34 1 hlen rfl (by decide)
  have hdg : decode cc pc = .ok (.i2s, 1) := hdg
  have hop : (sw_oUn (fun x => x.toInt16.toInt32)) pc 1 zs ns ls st M = some q := hop
  obtain ⟨x, st1, rfl, rfl⟩ := sw_oUn_i hop
  refine ⟨_, _, _, _, rfl, fun kk => ?_⟩
  exact lv_i2s hx hb hdg rfl (kk _ _ _ hS hl)
theorem sw_s27 : sw_Snd 27 := by
  intro p l e R s m args below meth c cells slots Q o cc nL ad G D A M0 d X pc len zs ns hdg hok hlen l0 ls st M H locs hS hl q hop
  obtain ⟨hx, hb, hml, hown, hts, hK, hA, hRO, hf, hlo, hce, hsl⟩ := X
  obtain rfl : len = 1 := sw_len1 27 1 hlen rfl (by decide)
  have hdg : decode cc pc = .ok (.ladd, 1) := hdg
  have hop : (sw_oLBin (fun x y => x + y)) pc 1 zs ns ls st M = some q := hop
  obtain ⟨y, x, st1, rfl, rfl⟩ := sw_oLBin_i hop
  refine ⟨_, _, _, _, rfl, fun kk => ?_⟩
  exact lv_ladd hx hb hdg (kk _ _ _ hS hl)
theorem sw_s28 : sw_Snd 28 := by
  intro p l e R s m args below meth c cells slots Q o cc nL ad G D A M0 d X pc len zs ns hdg hok hlen l0 ls st M H locs hS hl q hop
  obtain ⟨hx, hb, hml, hown, hts, hK, hA, hRO, hf, hlo, hce, hsl⟩ := X
  obtain rfl : len = 1 := sw_len1 28 1 hlen rfl (by decide)
  have hdg : decode cc pc = .ok (.lmul, 1) := hdg
  have hop : (sw_oLBin (fun x y => x * y)) pc 1 zs ns ls st M = some q := hop
  obtain ⟨y, x, st1, rfl, rfl⟩ := sw_oLBin_i hop
  refine ⟨_, _, _, _, rfl, fun kk => ?_⟩
  exact lv_lmul hx hb hdg (kk _ _ _ hS hl)
theorem sw_s29 : sw_Snd 29 := by
  intro p l e R s m args below meth c cells slots Q o cc nL ad G D A M0 d X pc len zs ns hdg hok hlen l0 ls st M H locs hS hl q hop
  obtain ⟨hx, hb, hml, hown, hts, hK, hA, hRO, hf, hlo, hce, hsl⟩ := X
  obtain rfl : len = 1 := sw_len1 29 1 hlen rfl (by decide)
  have hdg : decode cc pc = .ok (.lrem, 1) := hdg
  have hop : (sw_oLrem) pc 1 zs ns ls st M = some q := hop
  obtain ⟨y, x, st1, rfl, hy, rfl⟩ := sw_oLrem_i hop
  refine ⟨_, _, _, _, rfl, fun kk => ?_⟩
  exact lv_lrem hx hb hdg hy (kk _ _ _ hS hl)
theorem sw_s30 : sw_Snd 30 := by
  intro p l e R s m args below meth c cells slots Q o cc nL ad G D A M0 d X pc len zs ns hdg hok hlen l0 ls st M H locs hS hl q hop
  obtain ⟨hx, hb, hml, hown, hts, hK, hA, hRO, hf, hlo, hce, hsl⟩ := X
  obtain rfl : len = 1 := sw_len1 30 1 hlen rfl (by decide)
  have hdg : decode cc pc = .ok (.lcmp, 1) := hdg
  have hop : (sw_oLcmp) pc 1 zs ns ls st M = some q := hop
  obtain ⟨y, x, st1, rfl, rfl⟩ := sw_oLcmp_i hop
  refine ⟨_, _, _, _, rfl, fun kk => ?_⟩
  exact W.lcmp hx hb hdg (kk _ _ _ hS hl)
theorem sw_s31 : sw_Snd 31 := by
  intro p l e R s m args below meth c cells slots Q o cc nL ad G D A M0 d X pc len zs ns hdg hok hlen l0 ls st M H locs hS hl q hop
  obtain ⟨hx, hb, hml, hown, hts, hK, hA, hRO, hf, hlo, hce, hsl⟩ := X
  obtain rfl : len = 1 := sw_len1 31 1 hlen rfl (by decide)
  have hdg : decode cc pc = .ok (.i2l, 1) := hdg
  have hop : (sw_oI2l) pc 1 zs ns ls st M = some q := hop
  obtain ⟨x, st1, rfl, rfl⟩ := sw_oI2l_i hop
  refine ⟨_, _, _, _, rfl, fun kk => ?_⟩
  exact lv_i2l hx hb hdg rfl (kk _ _ _ hS hl)
theorem sw_s32 : sw_Snd 32 := by
  intro p l e R s m args below meth c cells slots Q o cc nL ad G D A M0 d X pc len zs ns hdg hok hlen l0 ls st M H locs hS hl q hop
  obtain ⟨hx, hb, hml, hown, hts, hK, hA, hRO, hf, hlo, hce, hsl⟩ := X
  obtain rfl : len = 1 := sw_len1 32 1 hlen rfl (by decide)
  have hdg : decode cc pc = .ok (.l2i, 1) := hdg
  have hop : (sw_oL2i) pc 1 zs ns ls st M = some q := hop
  obtain ⟨x, st1, rfl, rfl⟩ := sw_oL2i_i hop
  refine ⟨_, _, _, _, rfl, fun kk => ?_⟩
  exact lv_l2i hx hb hdg rfl (kk _ _ _ hS hl)
theorem sw_s35 : sw_Snd 35 := by
  intro p l e R s m args below meth c cells slots Q o cc nL ad G D A M0 d X pc len zs ns hdg hok hlen l0 ls st M H locs hS hl q hop
  obtain ⟨hx, hb, hml, hown, hts, hK, hA, hRO, hf, hlo, hce, hsl⟩ := X
  obtain rfl : len = 1 := sw_len1 35 1 hlen rfl (by decide)
  have hdg : decode cc pc = .ok (.dup, 1) := hdg
  have hop : (sw_oDup) pc 1 zs ns ls st M = some q := hop
  obtain ⟨v, st1, rfl, hv, rfl⟩ := sw_oDup_i hop
  refine ⟨_, _, _, _, rfl, fun kk => ?_⟩
  exact lv_dup hx hb hdg (by rw [sw_cv_cat]; exact hv) (kk _ _ _ hS hl)
theorem sw_s36 : sw_Snd 36 := by
  intro p l e R s m args below meth c cells slots Q o cc nL ad G D A M0 d X pc len zs ns hdg hok hlen l0 ls st M H locs hS hl q hop
  obtain ⟨hx, hb, hml, hown, hts, hK, hA, hRO, hf, hlo, hce, hsl⟩ := X
  obtain rfl : len = 1 := sw_len1 36 1 hlen rfl (by decide)
  have hdg : decode cc pc = .ok (.dup2, 1) := hdg
  have hop : (sw_oDup2) pc 1 zs ns ls st M = some q := hop
  obtain ⟨x, y, st1, rfl, rfl⟩ := sw_oDup2_i hop
  refine ⟨_, _, _, _, rfl, fun kk => ?_⟩
  exact lv_dup2_11 hx hb hdg (by rfl) (by rfl) (kk _ _ _ hS hl)
theorem sw_s37 : sw_Snd 37 := by
  intro p l e R s m args below meth c cells slots Q o cc nL ad G D A M0 d X pc len zs ns hdg hok hlen l0 ls st M H locs hS hl q hop
  obtain ⟨hx, hb, hml, hown, hts, hK, hA, hRO, hf, hlo, hce, hsl⟩ := X
  obtain rfl : len = 1 := sw_len1 37 1 hlen rfl (by decide)
  have hdg : decode cc pc = .ok (.pop, 1) := hdg
  have hop : (sw_oPop) pc 1 zs ns ls st M = some q := hop
  obtain ⟨v, st1, rfl, hv, rfl⟩ := sw_oPop_i hop
  refine ⟨_, _, _, _, rfl, fun kk => ?_⟩
  exact lv_pop hx hb hdg (by rw [sw_cv_cat]; exact hv) (kk _ _ _ hS hl)
theorem sw_s38 : sw_Snd 38 := by
  intro p l e R s m args below meth c cells slots Q o cc nL ad G D A M0 d X pc len zs ns hdg hok hlen l0 ls st M H locs hS hl q hop
  obtain ⟨hx, hb, hml, hown, hts, hK, hA, hRO, hf, hlo, hce, hsl⟩ := X
  obtain rfl : len = 3 := sw_len1 38 3 hlen rfl (by decide)
  have hdg : decode cc pc = .ok (.ifCond .eq ((sw_n ns 0 : Int) - (pc : Int)), 3) := hdg
  have hop : (sw_oIf (fun x => x = 0)) pc 3 zs ns ls st M = some q := hop
  obtain ⟨x, st1, rfl, rfl⟩ := sw_oIf_i hop
  refine ⟨_, _, _, _, rfl, fun kk => ?_⟩
  exact lv_if_eq (tgt := sw_n ns 0) hx hb hdg (by omega) (fun h => by have := kk l0 _ _ hS hl; rw [if_pos (show _ from h)] at this; exact this) (fun h => by have := kk l0 _ _ hS hl; rw [if_neg (show ¬ _ from h)] at this; exact this)
theorem sw_s44 : sw_Snd 44 := by
  intro p l e R s m args below meth c cells slots Q o cc nL ad G D A M0 d X pc len zs ns hdg hok hlen l0 ls st M H locs hS hl q hop
  obtain ⟨hx, hb, hml, hown, hts, hK, hA, hRO, hf, hlo, hce, hsl⟩ := X
  obtain rfl : len = 3 := sw_len1 44 3 hlen rfl (by decide)
  have hdg : decode cc pc = .ok (.if_icmp .eq ((sw_n ns 0 : Int) - (pc : Int)), 3) := hdg
  have hop : (sw_oCmp (fun x y => x = y)) pc 3 zs ns ls st M = some q := hop
  obtain ⟨y, x, st1, rfl, rfl⟩ := sw_oCmp_i hop
  refine ⟨_, _, _, _, rfl, fun kk => ?_⟩
  exact lv_icmp_eq (tgt := sw_n ns 0) hx hb hdg (by omega) (fun h => by have := kk l0 _ _ hS hl; rw [if_pos (show _ from h)] at this; exact this) (fun h => by have := kk l0 _ _ hS hl; rw [if_neg (show ¬ _ from h)] at this; exact this)
theorem sw_s39 : sw_Snd 39 := by
  intro p l e R s m args below meth c cells slots Q o cc nL ad G D A M0 d X pc len zs ns hdg hok hlen l0 ls st M H locs hS hl q hop
  obtain ⟨hx, hb, hml, hown, hts, hK, hA, hRO, hf, hlo, hce, hsl⟩ := X
  obtain rfl : len = 3 := sw_len1 39 3 hlen rfl (by decide)
  have hdg : decode cc pc = .ok (.ifCond .ne ((sw_n ns 0 : Int) - (pc : Int)), 3) := hdg
  have hop : (sw_oIf (fun x => ¬ x = 0)) pc 3 zs ns ls st M = some q := hop
  obtain ⟨x, st1, rfl, rfl⟩ := sw_oIf_i hop
  refine ⟨_, _, _, _, rfl, fun kk => ?_⟩
  exact lv_if_ne (tgt := sw_n ns 0) hx hb hdg (by omega) (fun h => by have := kk l0 _ _ hS hl; rw [if_pos (show _ from h)] at this; exact this) (fun h => by have := kk l0 _ _ hS hl; rw [if_neg (not_not_intro h)] at this; exact this)
theorem sw_s45 : sw_Snd 45 := by
  intro p l e R s m args below meth c cells slots Q o cc nL ad G D A M0 d X pc len zs ns hdg hok hlen l0 ls st M H locs hS hl q hop
  obtain ⟨hx, hb, hml, hown, hts, hK, hA, hRO, hf, hlo, hce, hsl⟩ := X
  obtain rfl : len = 3 := sw_len1 45 3 hlen rfl (by decide)
  have hdg : decode cc pc = .ok (.if_icmp .ne ((sw_n ns 0 : Int) - (pc : Int)), 3) := hdg
  have hop : (sw_oCmp (fun x y => ¬ x = y)) pc 3 zs ns ls st M = some q := hop
  obtain ⟨y, x, st1, rfl, rfl⟩ := sw_oCmp_i hop
  refine ⟨_, _, _, _, rfl, fun kk => ?_⟩
  exact lv_icmp_ne (tgt := sw_n ns 0) hx hb hdg (by omega) (fun h => by have := kk l0 _ _ hS hl; rw [if_pos (show _ from h)] at this; exact this) (fun h => by have := kk l0 _ _ hS hl; rw [if_neg (not_not_intro h)] at this; exact this)
theorem sw_s40 : sw_Snd 40 := by
  intro p l e R s m args below meth c cells slots Q o cc nL ad G D A M0 d X pc len zs ns hdg hok hlen l0 ls st M H locs hS hl q hop
  obtain ⟨hx, hb, hml, hown, hts, hK, hA, hRO, hf, hlo, hce, hsl⟩ := X
  obtain rfl : len = 3 := sw_len1 40 3 hlen rfl (by decide)
  have hdg : decode cc pc = .ok (.ifCond .lt ((sw_n ns 0 : Int) - (pc : Int)), 3) := hdg
  have hop : (sw_oIf (fun x => x < 0)) pc 3 zs ns ls st M = some q := hop
  obtain ⟨x, st1, rfl, rfl⟩ := sw_oIf_i hop
  refine ⟨_, _, _, _, rfl, fun kk => ?_⟩
  exact lv_if_lt (tgt := sw_n ns 0) hx hb hdg (by omega) (fun h => by have := kk l0 _ _ hS hl; rw [if_pos (show _ from h)] at this; exact this) (fun h => by have := kk l0 _ _ hS hl; rw [if_neg (show ¬ _ from h)] at this; exact this)
theorem sw_s46 : sw_Snd 46 := by
  intro p l e R s m args below meth c cells slots Q o cc nL ad G D A M0 d X pc len zs ns hdg hok hlen l0 ls st M H locs hS hl q hop
  obtain ⟨hx, hb, hml, hown, hts, hK, hA, hRO, hf, hlo, hce, hsl⟩ := X
  obtain rfl : len = 3 := sw_len1 46 3 hlen rfl (by decide)
  have hdg : decode cc pc = .ok (.if_icmp .lt ((sw_n ns 0 : Int) - (pc : Int)), 3) := hdg
  have hop : (sw_oCmp (fun x y => x < y)) pc 3 zs ns ls st M = some q := hop
  obtain ⟨y, x, st1, rfl, rfl⟩ := sw_oCmp_i hop
  refine ⟨_, _, _, _, rfl, fun kk => ?_⟩
  exact lv_icmp_lt (tgt := sw_n ns 0) hx hb hdg (by omega) (fun h => by have := kk l0 _ _ hS hl; rw [if_pos (show _ from h)] at this; exact this) (fun h => by have := kk l0 _ _ hS hl; rw [if_neg (show ¬ _ from h)] at this; exact this)
theorem sw_s41 : sw_Snd 41 := by
  intro p l e R s m args below meth c cells slots Q o cc nL ad G D A M0 d X pc len zs ns hdg hok hlen l0 ls st M H locs hS hl q hop
  obtain ⟨hx, hb, hml, hown, hts, hK, hA, hRO, hf, hlo, hce, hsl⟩ := X
  obtain rfl : len = 3 := sw_len1 41 3 hlen rfl (by decide)
  have hdg : decode cc pc = .ok (.ifCond .ge ((sw_n ns 0 : Int) - (pc : Int)), 3) := hdg
  have hop : (sw_oIf (fun x => 0 ≤ x)) pc 3 zs ns ls st M = some q := hop
  obtain ⟨x, st1, rfl, rfl⟩ := sw_oIf_i hop
  refine ⟨_, _, _, _, rfl, fun kk => ?_⟩
  exact lv_if_ge (tgt := sw_n ns 0) hx hb hdg (by omega) (fun h => by have := kk l0 _ _ hS hl; rw [if_pos (show _ from h)] at this; exact this) (fun h => by have := kk l0 _ _ hS hl; rw [if_neg (show ¬ _ from h)] at this; exact this)
theorem sw_s47 : sw_Snd 47 := by
  intro p l e R s m args below meth c cells slots Q o cc nL ad G D A M0 d X pc len zs ns hdg hok hlen l0 ls st M H locs hS hl q hop
  obtain ⟨hx, hb, hml, hown, hts, hK, hA, hRO, hf, hlo, hce, hsl⟩ := X
  obtain rfl : len = 3 := sw_len1 47 3 hlen rfl (by decide)
  have hdg : decode cc pc = .ok (.if_icmp .ge ((sw_n ns 0 : Int) - (pc : Int)), 3) := hdg
  have hop : (sw_oCmp (fun x y => y ≤ x)) pc 3 zs ns ls st M = some q := hop
  obtain ⟨y, x, st1, rfl, rfl⟩ := sw_oCmp_i hop
  refine ⟨_, _, _, _, rfl, fun kk => ?_⟩
  exact lv_icmp_ge (tgt := sw_n ns 0) hx hb hdg (by omega) (fun h => by have := kk l0 _ _ hS hl; rw [if_pos (show _ from h)] at this; exact this) (fun h => by have := kk l0 _ _ hS hl; rw [if_neg (show ¬ _ from h)] at this; exact this)
theorem sw_s42 : sw_Snd 42 := by
  intro p l e R s m args below meth c cells slots Q o cc nL ad G D A M0 d X pc len zs ns hdg hok hlen l0 ls st M H locs hS hl q hop
  obtain ⟨hx, hb, hml, hown, hts, hK, hA, hRO, hf, hlo, hce, hsl⟩ := X
  obtain rfl : len = 3 := sw_len1 42 3 hlen rfl (by decide)
  have hdg : decode cc pc = .ok (.ifCond .gt ((sw_n ns 0 : Int) - (pc : Int)), 3) := hdg
  have hop : (sw_oIf (fun x => 0 < x)) pc 3 zs ns ls st M = some q := hop
  obtain ⟨x, st1, rfl, rfl⟩ := sw_oIf_i hop
  refine ⟨_, _, _, _, rfl, fun kk => ?_⟩
  exact lv_if_gt (tgt := sw_n ns 0) hx hb hdg (by omega) (fun h => by have := kk l0 _ _ hS hl; rw [if_pos (show _ from h)] at this; exact this) (fun h => by have := kk l0 _ _ hS hl; rw [if_neg (show ¬ _ from h)] at this; exact this)
theorem sw_s48 : sw_Snd 48 := by
  intro p l e R s m args below meth c cells slots Q o cc nL ad G D A M0 d X pc len zs ns hdg hok hlen l0 ls st M H locs hS hl q hop
  obtain ⟨hx, hb, hml, hown, hts, hK, hA, hRO, hf, hlo, hce, hsl⟩ := X
  obtain rfl : len = 3 := sw_len1 48 3 hlen rfl (by decide)
  have hdg : decode cc pc = .ok (.if_icmp .gt ((sw_n ns 0 : Int) - (pc : Int)), 3) := hdg
  have hop : (sw_oCmp (fun x y => y < x)) pc 3 zs ns ls st M = some q := hop
  obtain ⟨y, x, st1, rfl, rfl⟩ := sw_oCmp_i hop
  refine ⟨_, _, _, _, rfl, fun kk => ?_⟩
  exact lv_icmp_gt (tgt := sw_n ns 0) hx hb hdg (by omega) (fun h => by have := kk l0 _ _ hS hl; rw [if_pos (show _ from h)] at this; exact this) (fun h => by have := kk l0 _ _ hS hl; rw [if_neg (show ¬ _ from h)] at this; exact this)
theorem sw_s43 : sw_Snd 43 := by
  intro p l e R s m args below meth c cells slots Q o cc nL ad G D A M0 d X pc len zs ns hdg hok hlen l0 ls st M H locs hS hl q hop
  obtain ⟨hx, hb, hml, hown, hts, hK, hA, hRO, hf, hlo, hce, hsl⟩ := X
  obtain rfl : len = 3 := sw_len1 43 3 hlen rfl (by decide)
  have hdg : decode cc pc = .ok (.ifCond .le ((sw_n ns 0 : Int) - (pc : Int)), 3) := hdg
  have hop : (sw_oIf (fun x => x ≤ 0)) pc 3 zs ns ls st M = some q := hop
  obtain ⟨x, st1, rfl, rfl⟩ := sw_oIf_i hop
  refine ⟨_, _, _, _, rfl, fun kk => ?_⟩
  exact lv_if_le (tgt := sw_n ns 0) hx hb hdg (by omega) (fun h => by have := kk l0 _ _ hS hl; rw [if_pos (show _ from h)] at this; exact this) (fun h => by have := kk l0 _ _ hS hl; rw [if_neg (show ¬ _ from h)] at this; exact this)
theorem sw_s49 : sw_Snd 49 := by
  intro p l e R s m args below meth c cells slots Q o cc nL ad G D A M0 d X pc len zs ns hdg hok hlen l0 ls st M H locs hS hl q hop
  obtain ⟨hx, hb, hml, hown, hts, hK, hA, hRO, hf, hlo, hce, hsl⟩ := X
  obtain rfl : len = 3 := sw_len1 49 3 hlen rfl (by decide)
  have hdg : decode cc pc = .ok (.if_icmp .le ((sw_n ns 0 : Int) - (pc : Int)), 3) := hdg
  have hop : (sw_oCmp (fun x y => x ≤ y)) pc 3 zs ns ls st M = some q := hop
  obtain ⟨y, x, st1, rfl, rfl⟩ := sw_oCmp_i hop
  refine ⟨_, _, _, _, rfl, fun kk => ?_⟩
  exact lv_icmp_le (tgt := sw_n ns 0) hx hb hdg (by omega) (fun h => by have := kk l0 _ _ hS hl; rw [if_pos (show _ from h)] at this; exact this) (fun h => by have := kk l0 _ _ hS hl; rw [if_neg (show ¬ _ from h)] at this; exact this)
theorem sw_s50 : sw_Snd 50 := by
  intro p l e R s m args below meth c cells slots Q o cc nL ad G D A M0 d X pc len zs ns hdg hok hlen l0 ls st M H locs hS hl q hop
  obtain ⟨hx, hb, hml, hown, hts, hK, hA, hRO, hf, hlo, hce, hsl⟩ := X
  obtain rfl : len = 3 := sw_len1 50 3 hlen rfl (by decide)
  have hdg : decode cc pc = .ok (.goto ((sw_n ns 0 : Int) - (pc : Int)), 3) := hdg
  obtain rfl := sw_go_i hop
  refine ⟨_, _, _, _, rfl, fun kk => ?_⟩
  exact lv_goto (tgt := sw_n ns 0) hx hb hdg (by omega) (kk _ _ _ hS hl)
theorem sw_sorted (zs : List Int) : ∀ (os : List Int), os.length = zs.length → (zs.zip (zs.drop 1)).all (fun q => decide (q.1 < q.2)) = true → ((zs.zip os).zip ((zs.zip os).drop 1)).all (fun (a, next) => a.1 < next.1) = true := by
  induction zs with
  | nil => intro os _ _; simp
  | cons z zs ih =>
    intro os hl h
    cases os with
    | nil => simp at hl
    | cons w os =>
      cases zs with
      | nil =>
        cases os with
        | nil => rfl
        | cons w2 os => simp at hl
      | cons z2 zs =>
        cases os with
        | nil => simp at hl
        | cons w2 os =>
          have h1 := ih (w2 :: os) (by simpa using hl) (by simp only [List.drop_succ_cons, List.drop_zero, List.zip_cons_cons, List.all_cons, Bool.and_eq_true] at h ⊢; exact h.2)
          simp only [List.drop_succ_cons, List.drop_zero, List.zip_cons_cons, List.all_cons, Bool.and_eq_true] at h h1 ⊢
          exact ⟨h.1, h1⟩
theorem sw_pick_at : ∀ (zs : List Int) (ns : List Nat) (x : Int) (i t : Nat), zs[i]? = some x → (∀ j, j < i → zs[j]? ≠ some x) → ns[i]? = some t → sw_pick zs ns x = t
  | [], ns, x, i, t, h, _, _ => by simp at h
  | k :: ks, [], x, i, t, _, _, h => by simp at h
  | k :: ks, u :: us, x, 0, t, h, _, h2 => by
    simp at h h2
    simp [sw_pick, h, h2]
  | k :: ks, u :: us, x, i + 1, t, h, h1, h2 => by
    have hk : ¬ x = k := fun e => h1 0 (Nat.succ_pos i) (by simp [e])
    simp only [sw_pick, if_neg hk]
    exact sw_pick_at ks us x i t (by simpa using h) (fun j hj => by have := h1 (j + 1) (by omega); simpa using this) (by simpa using h2)
theorem sw_pick_out : ∀ (zs : List Int) (ns : List Nat) (x : Int), ns.length = zs.length + 1 → (∀ k ∈ zs, x ≠ k) → sw_pick zs ns x = ns.getLastD 0
  | [], [], x, h, _ => by simp at h
  | [], [t], x, _, _ => rfl
  | [], t :: u :: us, x, h, _ => by simp at h
  | k :: ks, [], x, h, _ => by simp at h
  | k :: ks, [t], x, h, _ => by simp at h
  | k :: ks, t :: u :: us, x, h, h1 => by
    have hk : ¬ x = k := h1 k List.mem_cons_self
    show (if x = k then t else sw_pick ks (u :: us) x) = _
    rw [if_neg hk, sw_pick_out ks (u :: us) x (by simpa using h) (fun k hk => h1 k (List.mem_cons_of_mem _ hk))]
    rfl
theorem sw_pick_off (pc : Nat) : ∀ (zs : List Int) (ns : List Nat) (x : Int), ns.length = zs.length + 1 → Op.lookupswitch.offset (zs.zip (ns.dropLast.map (fun t : Nat => (t : Int) - (pc : Int)))) ((ns.getLastD 0 : Nat) - (pc : Int)) x = (sw_pick zs ns x : Nat) - (pc : Int)
  | [], [], x, h => by simp at h
  | [], [t], x, _ => rfl
  | [], t :: u :: us, x, h => by simp at h
  | k :: ks, [], x, h => by simp at h
  | k :: ks, [t], x, h => by simp at h
  | k :: ks, t :: u :: us, x, h => by
    show Op.lookupswitch.offset ((k, (t : Int) - (pc : Int)) :: ks.zip ((u :: us).dropLast.map (fun t : Nat => (t : Int) - (pc : Int)))) (((u :: us).getLastD 0 : Nat) - (pc : Int)) x = ((if x = k then t else sw_pick ks (u :: us) x : Nat) : Int) - (pc : Int)
    rw [Op.lookupswitch.offset_cons]
    by_cases hk : k = x
    · rw [if_pos hk, if_pos hk.symm]
    · rw [if_neg hk, if_neg (Ne.symm hk)]
      exact sw_pick_off pc ks (u :: us) x (by simpa using h)
theorem sw_s51 : sw_Snd 51 := by
  intro p l e R s m args below meth c cells slots Q o cc nL ad G D A M0 d X pc len zs ns hdg hok hlen l0 ls st M H locs hS hl q hop
  obtain ⟨hx, hb, hml, hown, hts, hK, hA, hRO, hf, hlo, hce, hsl⟩ := X
  have hdg : decode cc pc = .ok (.tableswitch ((ns.getLastD 0 : Nat) - (pc : Int)) (zs.headD 0) (zs.getLastD 0) ((ns.dropLast.map (fun t : Nat => (t : Int) - (pc : Int))).toArray), len) := hdg
  have hop : (sw_oSwitch) pc len zs ns ls st M = some q := hop
  obtain ⟨x, st1, rfl, rfl⟩ := sw_oSwitch_i hop
  refine ⟨_, _, _, _, rfl, fun kk => ?_⟩
  obtain ⟨hz, hn, h0⟩ : zs = (List.range zs.length).map (fun i : Nat => zs.headD 0 + (i : Int)) ∧ ns.length = zs.length + 1 ∧ 0 < zs.length := of_decide_eq_true hok
  generalize hlo : zs.headD 0 = lo at hz hdg
  generalize hL : zs.length = L at hz hn h0
  have hzi : ∀ i, i < L → zs[i]? = some (lo + (i : Int)) := fun i hi => by rw [hz]; simp [hi]
  have hhi : zs.getLastD 0 = lo + ((L - 1 : Nat) : Int) := by
    rw [List.getLastD_eq_getLast?, List.getLast?_eq_getElem?, hL, hzi _ (by omega)]
    rfl
  rw [hhi] at hdg
  by_cases ho : x.toInt < lo ∨ lo + ((L - 1 : Nat) : Int) < x.toInt
  · have hp : sw_pick zs ns x.toInt = ns.getLastD 0 := sw_pick_out zs ns _ (by omega) (fun k hk e => by
      rw [hz] at hk
      obtain ⟨i, hi, rfl⟩ := List.mem_map.mp hk
      have := List.mem_range.mp hi
      omega)
    rw [hp] at kk
    exact lv_tableOut (tgt := ns.getLastD 0) hx hb hdg ho (by omega) (kk _ _ _ hS hl)
  · obtain ⟨i, hi⟩ : ∃ i : Nat, (x.toInt - lo).toNat = i := ⟨_, rfl⟩
    have hiL : i < L := by omega
    have hxi : x.toInt = lo + (i : Int) := by omega
    obtain ⟨t, ht⟩ : ∃ t, ns[i]? = some t := ⟨ns[i]'(by omega), List.getElem?_eq_getElem (by omega)⟩
    have hp : sw_pick zs ns x.toInt = t := sw_pick_at zs ns _ i t (by rw [hzi i hiL, hxi]) (fun j hj => by rw [hzi j (by omega), hxi]; intro e; have := Option.some.inj e; omega) ht
    rw [hp] at kk
    refine lv_tableIn (tgt := t) (off := (t : Int) - (pc : Int)) hx hb hdg (by omega) (by omega) ?_ (by omega) (kk _ _ _ hS hl)
    rw [hi, List.getElem?_toArray, List.getElem?_map, List.getElem?_dropLast, if_pos (by omega), ht]
    rfl
theorem sw_s52 : sw_Snd 52 := by
  intro p l e R s m args below meth c cells slots Q o cc nL ad G D A M0 d X pc len zs ns hdg hok hlen l0 ls st M H locs hS hl q hop
  obtain ⟨hx, hb, hml, hown, hts, hK, hA, hRO, hf, hlo, hce, hsl⟩ := X
  have hdg : decode cc pc = .ok (.lookupswitch ((ns.getLastD 0 : Nat) - (pc : Int)) ((zs.zip (ns.dropLast.map (fun t : Nat => (t : Int) - (pc : Int)))).toArray), len) := hdg
  have hop : (sw_oSwitch) pc len zs ns ls st M = some q := hop
  obtain ⟨x, st1, rfl, rfl⟩ := sw_oSwitch_i hop
  refine ⟨_, _, _, _, rfl, fun kk => ?_⟩
  have hok : (decide (ns.length = zs.length + 1) && (zs.zip (zs.drop 1)).all (fun q => decide (q.1 < q.2))) = true := hok
  rw [Bool.and_eq_true] at hok
  have hn := of_decide_eq_true hok.1
  refine lv_lookup (tgt := sw_pick zs ns x.toInt) hx hb hdg ?_ (sw_pick_off pc zs ns x.toInt hn) (by omega) (kk _ _ _ hS hl)
  exact sw_sorted zs _ (by simp; omega) hok.2
