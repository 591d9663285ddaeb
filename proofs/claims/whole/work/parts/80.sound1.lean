/-! soundness: what a step of the abstract machine says, the machine does -/
/-- the good words among the tables' -/
def sw_gt : List Cond := lw_tbl.filter goodWord
theorem sw_gt_of {w : Cond} (h : w ∈ lw_tbl) (g : goodWord w = true) : w ∈ sw_gt := List.mem_filter.mpr ⟨h, g⟩
theorem sw_GI {ws : List Cond} (h : ∀ w ∈ ws, w ∈ sw_gt) : GoodIn sw_gt ws := fun w hw => ⟨h w hw, good_of_word (List.mem_filter.mp (h w hw)).2⟩
theorem sw_w_mem {ns : List Nat} {i : Nat} {w : Cond} (h : sw_w ns i w = true) : w ∈ sw_gt := by
  unfold sw_w at h
  rw [Bool.and_eq_true] at h
  exact sw_gt_of (List.mem_of_getElem? (of_decide_eq_true h.1)) h.2
theorem sw_mem_at {w : Cond} (i : Nat) (h : lw_tbl[i]? = some w) (g : goodWord w = true) : w ∈ sw_gt := sw_gt_of (List.mem_of_getElem? h) g
def sw_lr (ad : Nat → Nat) (nL : Nat) (l0 : Array Slot) (ls : List Value) : Prop := ∃ lv, lv_has l0 nL lv ∧ ls.length = nL ∧ ∀ (i : Nat) (v : Value), ls[i]? = some v → v ≠ sw_U → (i, sw_cv ad v) ∈ lv
theorem sw_lr_get {ad : Nat → Nat} {nL : Nat} {l0 : Array Slot} {ls : List Value} (h : sw_lr ad nL l0 ls) {i : Nat} {v : Value} (hi : ls[i]? = some v) (hv : v ≠ sw_U) : l0[i]? = some (.val (sw_cv ad v)) := by
  obtain ⟨lv, h1, h2, h3⟩ := h
  exact h1.2.2 _ (h3 i v hi hv)
theorem sw_lr_sz {ad : Nat → Nat} {nL : Nat} {l0 : Array Slot} {ls : List Value} (h : sw_lr ad nL l0 ls) : l0.size = nL := by
  obtain ⟨lv, h1, h2, h3⟩ := h
  exact h1.1
theorem sw_st1_len : ∀ (i : Nat) (v : Value) (ls : List Value), (sw_st1 i v ls).length = ls.length
  | 0, v, [] => rfl
  | 0, v, a :: l => rfl
  | i + 1, v, [] => rfl
  | i + 1, v, a :: l => by
    show ((if i = 0 then sw_clr a else a) :: sw_st1 i v l).length = _
    rw [List.length_cons, List.length_cons, sw_st1_len i v l]
theorem sw_st1_get : ∀ (i : Nat) (v : Value) (ls : List Value) (j : Nat), i < ls.length → (sw_st1 i v ls)[j]? = if j = i then some v else if j + 1 = i then (ls[j]?).map sw_clr else ls[j]?
  | i, v, [], j, h => absurd h (Nat.not_lt_zero _)
  | 0, v, a :: l, j, h => by
    show (v :: l)[j]? = _
    cases j with
    | zero => simp
    | succ j => simp
  | i + 1, v, a :: l, j, h => by
    show ((if i = 0 then sw_clr a else a) :: sw_st1 i v l)[j]? = _
    cases j with
    | zero =>
      by_cases h0 : i = 0
      · subst h0; simp
      · rw [if_neg h0, if_neg (by omega), if_neg (by omega)]
        simp
    | succ j =>
      rw [List.getElem?_cons_succ, sw_st1_get i v l j (Nat.lt_of_succ_lt_succ h), List.getElem?_cons_succ]
      simp only [Nat.add_right_cancel_iff]
theorem sw_st2_len : ∀ (i : Nat) (v : Value) (ls : List Value), (sw_st2 i v ls).length = ls.length
  | 0, v, [] => rfl
  | 0, v, [a] => rfl
  | 0, v, a :: b :: l => rfl
  | i + 1, v, [] => rfl
  | i + 1, v, a :: l => by
    show ((if i = 0 then sw_clr a else a) :: sw_st2 i v l).length = _
    rw [List.length_cons, List.length_cons, sw_st2_len i v l]
theorem sw_st2_get : ∀ (i : Nat) (v : Value) (ls : List Value) (j : Nat), i + 1 < ls.length → (sw_st2 i v ls)[j]? = if j = i then some v else if j = i + 1 then some sw_U else if j + 1 = i then (ls[j]?).map sw_clr else ls[j]?
  | i, v, [], j, h => absurd h (Nat.not_lt_zero _)
  | 0, v, [a], j, h => absurd h (Nat.lt_irrefl _)
  | 0, v, a :: b :: l, j, h => by
    show (v :: sw_U :: l)[j]? = _
    cases j with
    | zero => simp
    | succ j =>
      cases j with
      | zero => simp
      | succ j => simp
  | i + 1, v, a :: l, j, h => by
    show ((if i = 0 then sw_clr a else a) :: sw_st2 i v l)[j]? = _
    cases j with
    | zero =>
      by_cases h0 : i = 0
      · subst h0; simp
      · rw [if_neg (show ¬ 0 = i + 1 by omega), if_neg (show ¬ 0 = i + 1 + 1 by omega), if_neg (show ¬ 0 + 1 = i + 1 by omega), if_neg h0]
        simp
    | succ j =>
      rw [List.getElem?_cons_succ, sw_st2_get i v l j (Nat.lt_of_succ_lt_succ h), List.getElem?_cons_succ]
      simp only [Nat.add_right_cancel_iff]
theorem sw_clr_or (x : Value) : (x.category = 1 ∧ sw_clr x = x) ∨ sw_clr x = sw_U := by cases x <;> simp [sw_clr, Value.category]
theorem sw_cv_cat (ad : Nat → Nat) (x : Value) : (sw_cv ad x).category = x.category := by cases x <;> rfl
theorem sw_lr_s1 {ad : Nat → Nat} {nL : Nat} {l1 : Array Slot} {ls : List Value} {lv : List (Nat × Value)} (h2 : ls.length = nL) (h3 : ∀ (i : Nat) (v : Value), ls[i]? = some v → v ≠ sw_U → (i, sw_cv ad v) ∈ lv) {i : Nat} {v : Value} (hi : i < nL)
    (hl1 : lv_has l1 nL ((i, sw_cv ad v) :: lv.filter (fun q => !(q.1 == i) && !(q.1 + 1 == i && q.2.category == 2)))) : sw_lr ad nL l1 (sw_st1 i v ls) := by
  refine ⟨_, hl1, by rw [sw_st1_len]; exact h2, fun j w hj hw => ?_⟩
  rw [sw_st1_get _ _ _ _ (by omega)] at hj
  by_cases a : j = i
  · rw [if_pos a] at hj
    cases hj
    subst a
    exact List.mem_cons_self
  · rw [if_neg a] at hj
    refine List.mem_cons_of_mem _ (List.mem_filter.mpr ?_)
    by_cases b : j + 1 = i
    · rw [if_pos b] at hj
      cases hx : ls[j]? with
      | none => rw [hx] at hj; cases hj
      | some x =>
        rw [hx] at hj
        have hj : sw_clr x = w := by simpa using hj
        rcases sw_clr_or x with ⟨c1, c2⟩ | c
        · rw [c2] at hj
          subst hj
          exact ⟨h3 j _ hx hw, by simp [a, sw_cv_cat, c1]⟩
        · exact absurd (hj.symm.trans c) hw
    · rw [if_neg b] at hj
      exact ⟨h3 j w hj hw, by simp [a, b]⟩
theorem sw_lr_s2 {ad : Nat → Nat} {nL : Nat} {l1 : Array Slot} {ls : List Value} {lv : List (Nat × Value)} (h2 : ls.length = nL) (h3 : ∀ (i : Nat) (v : Value), ls[i]? = some v → v ≠ sw_U → (i, sw_cv ad v) ∈ lv) {i : Nat} {v : Value} (hi : i + 1 < nL)
    (hl1 : lv_has l1 nL ((i, sw_cv ad v) :: lv.filter (fun q => !(q.1 == i) && (!(q.1 == i + 1) && !(q.1 + 1 == i && q.2.category == 2))))) : sw_lr ad nL l1 (sw_st2 i v ls) := by
  refine ⟨_, hl1, by rw [sw_st2_len]; exact h2, fun j w hj hw => ?_⟩
  rw [sw_st2_get _ _ _ _ (by omega)] at hj
  by_cases a : j = i
  · rw [if_pos a] at hj
    cases hj
    subst a
    exact List.mem_cons_self
  · rw [if_neg a] at hj
    refine List.mem_cons_of_mem _ (List.mem_filter.mpr ?_)
    by_cases a2 : j = i + 1
    · rw [if_pos a2] at hj
      cases hj
      exact absurd rfl hw
    · rw [if_neg a2] at hj
      by_cases b : j + 1 = i
      · rw [if_pos b] at hj
        cases hx : ls[j]? with
        | none => rw [hx] at hj; cases hj
        | some x =>
          rw [hx] at hj
          have hj : sw_clr x = w := by simpa using hj
          rcases sw_clr_or x with ⟨c1, c2⟩ | c
          · rw [c2] at hj
            subst hj
            exact ⟨h3 j _ hx hw, by simp [a, a2, sw_cv_cat, c1]⟩
          · exact absurd (hj.symm.trans c) hw
      · rw [if_neg b] at hj
        exact ⟨h3 j w hj hw, by simp [a, a2, b]⟩
/-! the world -/
def sw_RO (ad : Nat → Nat) (M : sw_Mem) (A : Nat → Prop) (U : State) (H : Heap) : Prop :=
  (∀ a, 109 ≤ a → a < 113 → ad a < H.size ∧ ¬ A (ad a) ∧ va_X (ad a) (sw_rl M a) (M a) U H) ∧ ∀ i, i < 3 → va_Z "StoneWed$Kinds" (sw_gsT.getD i "") "[I" (.ref (ad (109 + i))) A U H
theorem sw_RO.moved {ad : Nat → Nat} {M : sw_Mem} {A : Nat → Prop} {u U : State} {H : Heap} (hvm : u.vm.Alike U.vm) (h : sw_RO ad M A u H) : sw_RO ad M A U H :=
  ⟨fun a h1 h2 => ⟨(h.1 a h1 h2).1, (h.1 a h1 h2).2.1, (h.1 a h1 h2).2.2.moved hvm⟩, fun i hi => (h.2 i hi).moved hvm⟩
def sw_S (ad : Nat → Nat) (G : sw_G) (D : va_G) (A : Nat → Prop) (s : State) (M0 M : sw_Mem) (H : Heap) (locs : List Loc) : Prop :=
  va_P D vwCl (sw_ws ad G M) H ∧ va_D A (sw_ws ad G M) ∧ va_S A s.heap H locs ∧ ∀ a, 109 ≤ a → M a = M0 a
def sw_X (p : Program) (R : Room) (s : State) (m : MethodId) (args : Array Value) (c : Code) (o : Nat) (cc : ByteArray) (nL : Nat) (ad : Nat → Nat) (G : sw_G) (D : va_G) (A : Nat → Prop) (M0 : sw_Mem) (cells slots d : Nat) : Prop :=
  p.tables.exec = Jvm.exec ∧ c.code = cc ∧ c.maxLocals = nL ∧ s.vm.findClass (sw_cn o) = some m.cls ∧ (∀ w ∈ sw_gt, w.before args s = true) ∧ va_K D vwCl (sw_tys G) s ∧ (∀ q, s.heap.size ≤ q → A q) ∧ sw_RO ad M0 A s s.heap ∧ d + 1 ≤ R.frames ∧ 60 * (d + 1) ≤ R.locals ∧ cells ≤ R.cells ∧ slots ≤ R.slots
theorem sw_S_set {ad : Nat → Nat} {G : sw_G} {D : va_G} {A : Nat → Prop} {s : State} {M0 M : sw_Mem} {H H1 : Heap} {locs locs1 : List Loc} {k : Nat} {f : Nat → Int32} {e : va_E} (hS : sw_S ad G D A s M0 M H locs) (hk : k < 109) (he : sw_ec ad G k f = e)
    (hP : va_P D vwCl ((sw_ws ad G M).set k (ad k, e)) H1) (hD : va_D A ((sw_ws ad G M).set k (ad k, e))) (hSS : va_S A s.heap H1 locs1) : sw_S ad G D A s M0 (sw_set M k f) H1 locs1 := by
  subst he
  rw [sw_ws_set] at hP hD
  exact ⟨hP, hD, hSS, fun a ha => by rw [sw_set_n _ _ (by omega)]; exact hS.2.2.2 a ha⟩
theorem sw_ec_obj {ad : Nat → Nat} {G : sw_G} {k c : Nat} {f : Nat → Int32} (h : sw_kd k = c) (hc : c < 10) : sw_ec ad G k f = .inr (c, (List.range (sw_nf c)).map (sw_fv ad k f)) := by
  subst h
  simp [sw_ec, hc]
theorem sw_ec_10 {ad : Nat → Nat} {G : sw_G} {k : Nat} {f : Nat → Int32} (h : sw_kd k = 10) : sw_ec ad G k f = .inl (G.1, sw_ln k, .inl f) := by simp [sw_ec, h]
theorem sw_ec_11 {ad : Nat → Nat} {G : sw_G} {k : Nat} {f : Nat → Int32} (h : sw_kd k = 11) : sw_ec ad G k f = .inl (G.2.1, sw_ln k, .inl f) := by simp [sw_ec, h]
theorem sw_ec_12 {ad : Nat → Nat} {G : sw_G} {k : Nat} {f : Nat → Int32} (h : sw_kd k = 12) : sw_ec ad G k f = .inl (G.2.2.1, sw_ln k, .inr (.inr (.inr (.inr (sw_rf ad k))))) := by simp [sw_ec, h]
theorem sw_ec_13 {ad : Nat → Nat} {G : sw_G} {k : Nat} {f : Nat → Int32} (h : sw_kd k = 13) : sw_ec ad G k f = .inl (G.2.2.2, sw_ln k, .inr (.inr (.inr (.inr (sw_rf ad k))))) := by simp [sw_ec, h]
theorem sw_fs_get {c j : Nat} {g : Nat → Value} (h : j < sw_nf c) : ((List.range (sw_nf c)).map g)[j]? = some (g j) := by simp [h]
theorem sw_gf_cv {ad : Nat → Nat} {c j o : Nat} {M : sw_Mem} (h : sw_kd o = c) : sw_cv ad (sw_gf c j o M) = sw_fv ad o (M o) j := by
  subst h
  unfold sw_gf sw_fv
  split
  · rfl
  · split <;> rfl
theorem sw_fs_set {ad : Nat → Nat} {k c j : Nat} {f : Nat → Int32} {x : Int32} {v : Value} (h : sw_kd k = c) (hn : sw_fk c j ≠ 1) (hv : (if sw_fk c j = 2 then .ref (ad x.toNatClampNeg) else .int x) = v) : (List.range (sw_nf c)).map (sw_fv ad k (upd f j x)) = ((List.range (sw_nf c)).map (sw_fv ad k f)).set j v := by
  subst h
  subst hv
  apply List.ext_getElem?
  intro i
  by_cases hi : i < sw_nf (sw_kd k)
  · by_cases hij : i = j
    · subst hij
      rw [List.getElem?_set_self (by simpa using hi), sw_fs_get hi]
      simp only [sw_fv, if_neg hn, upd, if_true]
    · rw [List.getElem?_set_ne (Ne.symm hij), sw_fs_get hi, sw_fs_get hi]
      simp only [sw_fv, upd, if_neg hij]
  · rw [List.getElem?_eq_none (by simpa using hi), List.getElem?_eq_none (by simpa using hi)]
theorem sw_at {ad : Nat → Nat} {G : sw_G} {M : sw_Mem} {k : Nat} {e : va_E} (hk : k < 109) (he : sw_ec ad G k (M k) = e) : (sw_ws ad G M)[k]? = some (ad k, e) := by rw [sw_ws_get hk, he]
/-- what is true of the classes -/
def sw_ClOk (q : vw_C) : Prop := (∀ w ∈ u_ws q.1 q.2.1 q.2.2, w ∈ sw_gt) ∧ (∃ ty : Nat → FieldType, ∀ k, k < q.2.2 → parseFieldDescriptor (q.2.1 k).2.2.1 = some (ty k)) ∧ (∀ a, a < q.2.2 → ∀ b, b < q.2.2 → a ≠ b → (q.2.1 a).2.1 ≠ (q.2.1 b).2.1)
theorem sw_clok : ∀ (ci : Nat) (q : vw_C), vwCl[ci]? = some q → sw_ClOk q := by
  intro ci q h
  match ci, h with
  | 0, h => cases h; exact ⟨fun w hw => sw_gt_of (sw_inX0 w hw) (List.all_eq_true.mp (show (u_ws RX0 TX0 3).all goodWord = true by decide +kernel) w hw), ⟨tyX0, tyX0_ok⟩, nmX0⟩
  | 1, h => cases h; exact ⟨fun w hw => sw_gt_of (sw_inX1 w hw) (List.all_eq_true.mp (show (u_ws RX1 TX1 6).all goodWord = true by decide +kernel) w hw), ⟨tyX1, tyX1_ok⟩, nmX1⟩
  | 2, h => cases h; exact ⟨fun w hw => sw_gt_of (sw_inX2 w hw) (List.all_eq_true.mp (show (u_ws RX2 TX2 3).all goodWord = true by decide +kernel) w hw), ⟨tyX2, tyX2_ok⟩, nmX2⟩
  | 3, h => cases h; exact ⟨fun w hw => sw_gt_of (sw_inX4 w hw) (List.all_eq_true.mp (show (u_ws RX4 TX4 4).all goodWord = true by decide +kernel) w hw), ⟨tyX4, tyX4_ok⟩, nmX4⟩
  | 4, h => cases h; exact ⟨fun w hw => sw_gt_of (sw_inX5 w hw) (List.all_eq_true.mp (show (u_ws RX5 TX5 3).all goodWord = true by decide +kernel) w hw), ⟨tyX5, tyX5_ok⟩, nmX5⟩
  | 5, h => cases h; exact ⟨fun w hw => sw_gt_of (sw_inX6 w hw) (List.all_eq_true.mp (show (u_ws RX6 TX6 2).all goodWord = true by decide +kernel) w hw), ⟨tyX6, tyX6_ok⟩, nmX6⟩
  | 6, h => cases h; exact ⟨fun w hw => sw_gt_of (sw_inX7 w hw) (List.all_eq_true.mp (show (u_ws RX7 TX7 11).all goodWord = true by decide +kernel) w hw), ⟨tyX7, tyX7_ok⟩, nmX7⟩
  | 7, h => cases h; exact ⟨fun w hw => sw_gt_of (sw_inX8 w hw) (List.all_eq_true.mp (show (u_ws RX8 TX8 9).all goodWord = true by decide +kernel) w hw), ⟨tyX8, tyX8_ok⟩, nmX8⟩
  | 8, h => cases h; exact ⟨fun w hw => sw_gt_of (sw_inX9 w hw) (List.all_eq_true.mp (show (u_ws RX9 TX9 10).all goodWord = true by decide +kernel) w hw), ⟨tyX9, tyX9_ok⟩, nmX9⟩
  | 9, h => cases h; exact ⟨fun w hw => sw_gt_of (sw_inX10 w hw) (List.all_eq_true.mp (show (u_ws RX10 TX10 19).all goodWord = true by decide +kernel) w hw), ⟨tyX10, tyX10_ok⟩, nmX10⟩
  | n + 10, h => simp [vwCl] at h
theorem sw_fty0 : ∀ (ci : Nat) (q : vw_C), vwCl[ci]? = some q → ∀ j, j < q.2.2 → (sw_fk ci j = 0 → parseFieldDescriptor (q.2.1 j).2.2.1 = some .int) ∧ (sw_fk ci j = 3 → parseFieldDescriptor (q.2.1 j).2.2.1 = some .boolean) ∧ (sw_fk ci j = 2 → parseFieldDescriptor (q.2.1 j).2.2.1 = some (.object RX7)) := by
  intro ci q h
  match ci, h with
  | 0, h => cases h; decide +kernel
  | 1, h => cases h; decide +kernel
  | 2, h => cases h; decide +kernel
  | 3, h => cases h; decide +kernel
  | 4, h => cases h; decide +kernel
  | 5, h => cases h; decide +kernel
  | 6, h => cases h; decide +kernel
  | 7, h => cases h; decide +kernel
  | 8, h => cases h; decide +kernel
  | 9, h => cases h; decide +kernel
  | n + 10, h => simp [vwCl] at h
theorem sw_go_i {pc : Nat} {ls st : List Value} {M : sw_Mem} {q : (Nat × List Value × List Value × sw_Mem) ⊕ (Option Value × sw_Mem) ⊕ (Nat × List Value × Nat × List Value × List Value)} (h : sw_go pc ls st M = some q) : q = .inl (pc, ls, st, M) := (Option.some.inj h).symm
