/-! the abstract memory: cell, place -> int; the shape of the world is fixed once it is made -/
abbrev sw_Mem : Type := Nat → Nat → Int32
def sw_set (M : sw_Mem) (k : Nat) (f : Nat → Int32) : sw_Mem := fun q => if q = k then f else M q
def sw_up (M : sw_Mem) (k j : Nat) (v : Int32) : sw_Mem := sw_set M k (upd (M k) j v)
theorem sw_set_s (M : sw_Mem) (k : Nat) (f : Nat → Int32) : sw_set M k f k = f := if_pos rfl
theorem sw_set_n (M : sw_Mem) {k q : Nat} (f : Nat → Int32) (h : q ≠ k) : sw_set M k f q = M q := if_neg h
/-- kinds of cells: 0 .. 9 objects of a class (its place in vwCl), 10 int[], 11 boolean[], 12 int[][], 13 Valley[], 14 an int[] that is only read -/
def sw_kdT : List Nat := [9, 10, 11, 10, 10, 10, 10, 10, 10, 10, 10, 8, 4, 12, 10, 10, 10, 10, 10, 10, 10, 10, 10, 10, 5, 10, 3, 6, 10, 10, 10, 10, 10, 10, 6, 10, 10, 10, 10, 10, 10, 13, 6, 10, 10, 10, 10, 10, 10, 6, 10, 10, 10, 10, 10, 10, 0, 12, 10, 10, 10, 10, 10, 10, 10, 10, 10, 10, 10, 10, 10, 10, 10, 10, 10, 10, 10, 10, 10, 10, 10, 10, 2, 6, 10, 10, 10, 10, 10, 10, 10, 7, 6, 10, 10, 10, 10, 10, 10, 12, 10, 10, 10, 10, 10, 10, 10, 1, 10, 14, 14, 14, 14]
def sw_kd (k : Nat) : Nat := sw_kdT.getD k 99
def sw_lnT : List Nat := [0, 1148, 2, 8, 8, 320, 100, 16, 4, 4, 4, 0, 0, 8, 40, 40, 40, 40, 40, 40, 40, 40, 8, 8, 0, 100, 0, 0, 8, 8, 8, 4, 4, 4, 0, 8, 8, 8, 4, 4, 4, 2, 0, 8, 8, 8, 4, 4, 4, 0, 8, 8, 8, 4, 4, 4, 0, 24, 17, 17, 17, 17, 17, 17, 17, 17, 17, 17, 17, 17, 17, 17, 17, 17, 17, 17, 17, 17, 17, 17, 17, 17, 0, 0, 8, 8, 8, 4, 4, 4, 16, 0, 0, 8, 8, 8, 4, 4, 4, 4, 4, 4, 4, 4, 4, 4, 4, 0, 16, 0, 0, 0, 0]
def sw_ln (k : Nat) : Nat := sw_lnT.getD k 0
def sw_nfT : List Nat := [3, 6, 3, 4, 3, 2, 11, 9, 10, 19]
def sw_nf (c : Nat) : Nat := sw_nfT.getD c 0
/-- kinds of fields: 0 an int, 1 a reference that stays, 2 a reference that moves, 3 a boolean -/
def sw_fkT : List (List Nat) := [[1, 0, 0], [1, 0, 0, 0, 0, 0], [1, 1, 0], [1, 1, 0, 0], [1, 1, 1], [1, 0], [0, 0, 0, 0, 0, 1, 1, 1, 1, 1, 1], [1, 1, 1, 1, 1, 2, 0, 3, 0], [1, 1, 1, 1, 1, 1, 1, 1, 0, 0], [1, 3, 0, 1, 1, 1, 1, 1, 0, 0, 0, 1, 0, 0, 0, 0, 1, 1, 1]]
def sw_fk (c j : Nat) : Nat := (sw_fkT.getD c []).getD j 9
def sw_ftT : List (List Nat) := [[57, 0, 0], [108, 0, 0, 0, 0, 0], [83, 90, 0], [24, 27, 0, 0], [13, 22, 23], [25, 0], [], [92, 99, 104, 105, 106, 0, 0, 0, 0], [12, 26, 34, 41, 56, 82, 91, 107, 0, 0], [1, 0, 0, 2, 3, 4, 5, 6, 0, 0, 0, 7, 0, 0, 0, 0, 8, 9, 10]]
/-- where a reference that stays leads -/
def sw_ft (c j o : Nat) : Nat := if c = 6 then o + (j - 4) else (sw_ftT.getD c []).getD j 0
/-- the element of an array of references -/
def sw_rt (a i : Nat) : Nat := if a = 41 then 42 + 7 * i else a + 1 + i
abbrev sw_G : Type := ClassId × ClassId × ClassId × ClassId
def sw_tys (G : sw_G) : List (ClassId × FieldType) := [(G.1, .int), (G.2.1, .boolean), (G.2.2.1, .array .int), (G.2.2.2, .object RX7)]
def sw_fv (ad : Nat → Nat) (k : Nat) (f : Nat → Int32) (j : Nat) : Value :=
  if sw_fk (sw_kd k) j = 1 then .ref (ad (sw_ft (sw_kd k) j k)) else if sw_fk (sw_kd k) j = 2 then .ref (ad (f j).toNatClampNeg) else .int (f j)
def sw_rf (ad : Nat → Nat) (k : Nat) : Nat → Option Nat := fun i => if i < sw_ln k then some (ad (sw_rt k i)) else none
def sw_ec (ad : Nat → Nat) (G : sw_G) (k : Nat) (f : Nat → Int32) : va_E :=
  if sw_kd k < 10 then .inr (sw_kd k, (List.range (sw_nf (sw_kd k))).map (sw_fv ad k f))
  else if sw_kd k = 10 then .inl (G.1, sw_ln k, .inl f)
  else if sw_kd k = 11 then .inl (G.2.1, sw_ln k, .inl f)
  else if sw_kd k = 12 then .inl (G.2.2.1, sw_ln k, .inr (.inr (.inr (.inr (sw_rf ad k)))))
  else .inl (G.2.2.2, sw_ln k, .inr (.inr (.inr (.inr (sw_rf ad k)))))
def sw_ws (ad : Nat → Nat) (G : sw_G) (M : sw_Mem) : va_W := (List.range 109).map (fun k => (ad k, sw_ec ad G k (M k)))
theorem sw_kd_lt {k : Nat} (h : sw_kd k < 14) : k < 109 := by
  rcases Nat.lt_or_ge k 113 with q | q
  · have : ∀ k, k < 113 → sw_kd k < 14 → k < 109 := by decide +kernel
    exact this k q h
  · have e : sw_kd k = 99 := by
      unfold sw_kd
      rw [List.getD_eq_getElem?_getD, List.getElem?_eq_none (by exact q)]
      rfl
    omega
theorem sw_ws_get {ad : Nat → Nat} {G : sw_G} {M : sw_Mem} {k : Nat} (h : k < 109) : (sw_ws ad G M)[k]? = some (ad k, sw_ec ad G k (M k)) := by
  simp [sw_ws, h]
theorem sw_ws_set {ad : Nat → Nat} {G : sw_G} {M : sw_Mem} {k : Nat} (f : Nat → Int32) : (sw_ws ad G M).set k (ad k, sw_ec ad G k f) = sw_ws ad G (sw_set M k f) := by
  apply List.ext_getElem?
  intro i
  by_cases hi : i < 109
  · by_cases hk : i = k
    · subst hk
      rw [List.getElem?_set_self (by simp [sw_ws, hi]), sw_ws_get hi, sw_set_s]
    · rw [List.getElem?_set_ne (Ne.symm hk), sw_ws_get hi, sw_ws_get hi, sw_set_n _ _ hk]
  · rw [List.getElem?_eq_none (by simp [sw_ws]; omega), List.getElem?_eq_none (by simp [sw_ws]; omega)]
/-- addresses alone -/
theorem sw_D_any {ad : Nat → Nat} {G : sw_G} {M : sw_Mem} {A : Nat → Prop} (h : va_D A (sw_ws ad G M)) (M1 : sw_Mem) : va_D A (sw_ws ad G M1) := by
  have key : ∀ (k : Nat) (q : Nat × va_E), (sw_ws ad G M1)[k]? = some q → ∃ e, (sw_ws ad G M)[k]? = some (q.1, e) := by
    intro k q hk
    have hl : k < 109 := by
      have := (List.getElem?_eq_some_iff.mp hk).1
      simpa [sw_ws] using this
    rw [sw_ws_get hl] at hk
    cases hk
    exact ⟨_, sw_ws_get hl⟩
  refine ⟨fun i j p q hi hj hpq => ?_, fun k q hk => ?_⟩
  · obtain ⟨e1, h1⟩ := key i p hi
    obtain ⟨e2, h2⟩ := key j q hj
    exact h.1 i j _ _ h1 h2 hpq
  · obtain ⟨e1, h1⟩ := key k q hk
    have h2 := h.2 k (q.1, e1) h1
    exact h2
theorem sw_A_any {ad : Nat → Nat} {G : sw_G} {M M1 : sw_Mem} {sz : Nat} : va_A (sw_ws ad G M) sz = va_A (sw_ws ad G M1) sz := by
  funext q
  apply propext
  have key : ∀ (M M1 : sw_Mem), va_A (sw_ws ad G M) sz q → va_A (sw_ws ad G M1) sz q := by
    intro M M1 h
    rcases h with ⟨k, e, h⟩ | h
    · have hl : k < 109 := by
        have := (List.getElem?_eq_some_iff.mp h).1
        simpa [sw_ws] using this
      rw [sw_ws_get hl] at h
      cases h
      exact Or.inl ⟨k, _, sw_ws_get hl⟩
    · exact Or.inr h
  exact ⟨key M M1, key M1 M⟩
/-! values, locals -/
def sw_cv (ad : Nat → Nat) : Value → Value
  | .ref k => .ref (ad k)
  | v => v
/-- an unknown local -/
abbrev sw_U : Value := .retAddr 0
def sw_clr : Value → Value
  | .long _ => sw_U
  | .double _ => sw_U
  | v => v
/-- a store of one slot at i -/
def sw_st1 : Nat → Value → List Value → List Value
  | 0, v, l => match l with
    | _ :: l => v :: l
    | [] => []
  | i + 1, v, l => match l with
    | a :: l => (if i = 0 then sw_clr a else a) :: sw_st1 i v l
    | [] => []
/-- a store of two slots at i -/
def sw_st2 : Nat → Value → List Value → List Value
  | 0, v, l => match l with
    | _ :: _ :: l => v :: sw_U :: l
    | l => l
  | i + 1, v, l => match l with
    | a :: l => (if i = 0 then sw_clr a else a) :: sw_st2 i v l
    | [] => []
def sw_sum (l : List Value) : Nat := (l.map fun v => v.category).sum
/-- one step: on; the end; a call -/
abbrev sw_Act : Type := Option ((Nat × List Value × List Value × sw_Mem) ⊕ (Option Value × sw_Mem) ⊕ (Nat × List Value × Nat × List Value × List Value))
def sw_go (pc : Nat) (ls st : List Value) (M : sw_Mem) : sw_Act := some (.inl (pc, ls, st, M))
def sw_rtn (r : Option Value) (M : sw_Mem) : sw_Act := some (.inr (.inl (r, M)))
def sw_cll (k : Nat) (as : List Value) (pc : Nat) (ls st : List Value) : sw_Act := some (.inr (.inr (k, as, pc, ls, st)))
/-- what an operation is given: its place, its length, numbers, places -/
abbrev sw_Op : Type := Nat → Nat → List Int → List Nat → List Value → List Value → sw_Mem → sw_Act
def sw_z (zs : List Int) : Int := zs.getD 0 0
def sw_n (ns : List Nat) (i : Nat) : Nat := ns.getD i 0
def sw_push (v : Value) : sw_Op := fun pc len _ _ ls st M => sw_go (pc + len) ls (v :: st) M
def sw_oConst (f : Int → Int32) : sw_Op := fun pc len zs _ ls st M => sw_go (pc + len) ls (.int (f (sw_z zs)) :: st) M
def sw_oLong : sw_Op := fun pc len zs _ ls st M => sw_go (pc + len) ls (.long (Int64.ofInt (sw_z zs)) :: st) M
def sw_oLconst : sw_Op := fun pc len _ ns ls st M => sw_go (pc + len) ls (.long (Int64.ofNat (sw_n ns 0)) :: st) M
def sw_oIload : sw_Op := fun pc len _ ns ls st M => match ls[sw_n ns 0]? with
  | some (.int x) => sw_go (pc + len) ls (.int x :: st) M
  | _ => none
def sw_oLload : sw_Op := fun pc len _ ns ls st M => match ls[sw_n ns 0]? with
  | some (.long x) => sw_go (pc + len) ls (.long x :: st) M
  | _ => none
def sw_oAload : sw_Op := fun pc len _ ns ls st M => match ls[sw_n ns 0]? with
  | some (.ref x) => sw_go (pc + len) ls (.ref x :: st) M
  | _ => none
def sw_oIstore : sw_Op := fun pc len _ ns ls st M => match st with
  | .int x :: st => if sw_n ns 0 < ls.length then sw_go (pc + len) (sw_st1 (sw_n ns 0) (.int x) ls) st M else none
  | _ => none
def sw_oAstore : sw_Op := fun pc len _ ns ls st M => match st with
  | .ref x :: st => if sw_n ns 0 < ls.length then sw_go (pc + len) (sw_st1 (sw_n ns 0) (.ref x) ls) st M else none
  | _ => none
def sw_oLstore : sw_Op := fun pc len _ ns ls st M => match st with
  | .long x :: st => if sw_n ns 0 + 1 < ls.length then sw_go (pc + len) (sw_st2 (sw_n ns 0) (.long x) ls) st M else none
  | _ => none
def sw_oIinc : sw_Op := fun pc len zs ns ls st M => match ls[sw_n ns 0]? with
  | some (.int x) => sw_go (pc + len) (sw_st1 (sw_n ns 0) (.int (x + Int32.ofInt (sw_z zs))) ls) st M
  | _ => none
def sw_oBin (f : Int32 → Int32 → Int32) : sw_Op := fun pc len _ _ ls st M => match st with
  | .int y :: .int x :: st => sw_go (pc + len) ls (.int (f x y) :: st) M
  | _ => none
def sw_oDiv (f : Int32 → Int32 → Int32) : sw_Op := fun pc len _ _ ls st M => match st with
  | .int y :: .int x :: st => if ¬ y = 0 then sw_go (pc + len) ls (.int (f x y) :: st) M else none
  | _ => none
def sw_oUn (f : Int32 → Int32) : sw_Op := fun pc len _ _ ls st M => match st with
  | .int x :: st => sw_go (pc + len) ls (.int (f x) :: st) M
  | _ => none
def sw_oLBin (f : Int64 → Int64 → Int64) : sw_Op := fun pc len _ _ ls st M => match st with
  | .long y :: .long x :: st => sw_go (pc + len) ls (.long (f x y) :: st) M
  | _ => none
def sw_oLrem : sw_Op := fun pc len _ _ ls st M => match st with
  | .long y :: .long x :: st => if ¬ y = 0 then sw_go (pc + len) ls (.long (x - x / y * y) :: st) M else none
  | _ => none
def sw_oLcmp : sw_Op := fun pc len _ _ ls st M => match st with
  | .long y :: .long x :: st => sw_go (pc + len) ls (.int (lg_cmp x y) :: st) M
  | _ => none
def sw_oI2l : sw_Op := fun pc len _ _ ls st M => match st with
  | .int x :: st => sw_go (pc + len) ls (.long x.toInt64 :: st) M
  | _ => none
def sw_oL2i : sw_Op := fun pc len _ _ ls st M => match st with
  | .long x :: st => sw_go (pc + len) ls (.int x.toInt32 :: st) M
  | _ => none
def sw_oDup : sw_Op := fun pc len _ _ ls st M => match st with
  | .int x :: st => sw_go (pc + len) ls (.int x :: .int x :: st) M
  | .ref x :: st => sw_go (pc + len) ls (.ref x :: .ref x :: st) M
  | _ => none
def sw_oDup2 : sw_Op := fun pc len _ _ ls st M => match st with
  | .int x :: .ref y :: st => sw_go (pc + len) ls (.int x :: .ref y :: .int x :: .ref y :: st) M
  | _ => none
def sw_oPop : sw_Op := fun pc len _ _ ls st M => match st with
  | .int _ :: st => sw_go (pc + len) ls st M
  | .ref _ :: st => sw_go (pc + len) ls st M
  | _ => none
def sw_oIf (q : Int32 → Prop) [DecidablePred q] : sw_Op := fun pc len _ ns ls st M => match st with
  | .int x :: st => if q x then sw_go (sw_n ns 0) ls st M else sw_go (pc + len) ls st M
  | _ => none
def sw_oCmp (q : Int32 → Int32 → Prop) [∀ x y, Decidable (q x y)] : sw_Op := fun pc len _ ns ls st M => match st with
  | .int y :: .int x :: st => if q x y then sw_go (sw_n ns 0) ls st M else sw_go (pc + len) ls st M
  | _ => none
def sw_oGoto : sw_Op := fun _ _ _ ns ls st M => sw_go (sw_n ns 0) ls st M
/-- a switch: keys in zs, targets in ns, the last the default's -/
def sw_pick : List Int → List Nat → Int → Nat
  | k :: ks, t :: ts, x => if x = k then t else sw_pick ks ts x
  | _, t :: _, _ => t
  | _, [], _ => 0
def sw_oSwitch : sw_Op := fun _ _ zs ns ls st M => match st with
  | .int x :: st => sw_go (sw_pick zs ns x.toInt) ls st M
  | _ => none
/-- getfield: ns = index, class, field, place of the word -/
def sw_gf (c j o : Nat) (M : sw_Mem) : Value := if sw_fk c j = 1 then .ref (sw_ft c j o) else if sw_fk c j = 2 then .ref (M o j).toNatClampNeg else .int (M o j)
def sw_oGetf : sw_Op := fun pc len _ ns ls st M => match st with
  | .ref o :: st => if sw_kd o = sw_n ns 1 then sw_go (pc + len) ls (sw_gf (sw_n ns 1) (sw_n ns 2) o M :: st) M else none
  | _ => none
def sw_oPutf : sw_Op := fun pc len _ ns ls st M => match st with
  | .int v :: .ref o :: st => if sw_kd o = sw_n ns 1 then sw_go (pc + len) ls st (sw_up M o (sw_n ns 2) v) else none
  | _ => none
def sw_oPutz : sw_Op := fun pc len _ ns ls st M => match st with
  | .int v :: .ref o :: st => if sw_kd o = sw_n ns 1 ∧ (v = 0 ∨ v = 1) then sw_go (pc + len) ls st (sw_up M o (sw_n ns 2) v) else none
  | _ => none
def sw_oPutr : sw_Op := fun pc len _ ns ls st M => match st with
  | .ref t :: .ref o :: st => if sw_kd o = sw_n ns 1 ∧ sw_kd t = 6 then sw_go (pc + len) ls st (sw_up M o (sw_n ns 2) (nI t)) else none
  | _ => none
/-- getstatic: ns = index, which, place of the word -/
def sw_oGets : sw_Op := fun pc len _ ns ls st M => sw_go (pc + len) ls (.ref (109 + sw_n ns 1) :: st) M
abbrev sw_ib (i : Int32) (n : Nat) : Prop := ¬ (i < 0 ∨ n ≤ i.toNatClampNeg)
def sw_oIald : sw_Op := fun pc len _ _ ls st M => match st with
  | .int i :: .ref a :: st => if sw_kd a = 10 ∧ sw_ib i (sw_ln a) then sw_go (pc + len) ls (.int (M a i.toNatClampNeg) :: st) M else none
  | _ => none
/-- of an array that is only read: the Kinds' three, the script -/
def sw_rl (M : sw_Mem) (a : Nat) : Nat := if a = 112 then (M 113 0).toNatClampNeg else 6
def sw_oIaldR : sw_Op := fun pc len _ _ ls st M => match st with
  | .int i :: .ref a :: st => if sw_kd a = 14 ∧ sw_ib i (sw_rl M a) then sw_go (pc + len) ls (.int (M a i.toNatClampNeg) :: st) M else none
  | _ => none
def sw_oIast : sw_Op := fun pc len _ _ ls st M => match st with
  | .int x :: .int i :: .ref a :: st => if sw_kd a = 10 ∧ sw_ib i (sw_ln a) then sw_go (pc + len) ls st (sw_up M a i.toNatClampNeg x) else none
  | _ => none
def sw_oAald : sw_Op := fun pc len _ _ ls st M => match st with
  | .int i :: .ref a :: st => if (sw_kd a = 12 ∨ sw_kd a = 13) ∧ sw_ib i (sw_ln a) then sw_go (pc + len) ls (.ref (sw_rt a i.toNatClampNeg) :: st) M else none
  | _ => none
def sw_oBald : sw_Op := fun pc len _ _ ls st M => match st with
  | .int i :: .ref a :: st => if sw_kd a = 11 ∧ sw_ib i (sw_ln a) then sw_go (pc + len) ls (.int (M a i.toNatClampNeg) :: st) M else none
  | _ => none
def sw_oBast : sw_Op := fun pc len _ _ ls st M => match st with
  | .int x :: .int i :: .ref a :: st => if (sw_kd a = 11 ∧ (x = 0 ∨ x = 1)) ∧ sw_ib i (sw_ln a) then sw_go (pc + len) ls st (sw_up M a i.toNatClampNeg x) else none
  | _ => none
def sw_oAlen : sw_Op := fun pc len _ _ ls st M => match st with
  | .ref a :: st => if sw_kd a = 10 then sw_go (pc + len) ls (.int (nI (sw_ln a)) :: st) M else none
  | _ => none
def sw_oAlenR : sw_Op := fun pc len _ _ ls st M => match st with
  | .ref a :: st => if sw_kd a = 14 then sw_go (pc + len) ls (.int (nI (sw_rl M a)) :: st) M else none
  | _ => none
/-- calls: ns = index, callee, how many arguments, places of the words -/
def sw_oCallS : sw_Op := fun pc len _ ns ls st _ => if sw_n ns 2 ≤ st.length ∧ sw_sum (st.drop (sw_n ns 2)) ≤ 8 then sw_cll (sw_n ns 1) (st.take (sw_n ns 2)).reverse (pc + len) ls (st.drop (sw_n ns 2)) else none
/-- ns = index, callee, how many arguments beside the receiver, the receiver's class, places of the words -/
def sw_oCallV : sw_Op := fun pc len _ ns ls st _ => match st.drop (sw_n ns 2) with
  | .ref o :: r => if sw_kd o = sw_n ns 3 ∧ sw_n ns 2 ≤ st.length ∧ sw_sum r ≤ 8 then sw_cll (sw_n ns 1) (.ref o :: (st.take (sw_n ns 2)).reverse) (pc + len) ls r else none
  | _ => none
/-- System.arraycopy of ints -/
def sw_oCopy : sw_Op := fun pc len _ _ ls st M => match st with
  | .int n :: .int dp :: .ref b :: .int sp :: .ref a :: st => if ((sw_kd a = 10 ∧ sw_kd b = 10) ∧ (¬ sp < 0 ∧ ¬ dp < 0 ∧ ¬ n < 0) ∧ sp.toNatClampNeg + n.toNatClampNeg ≤ sw_ln a ∧ dp.toNatClampNeg + n.toNatClampNeg ≤ sw_ln b) ∧ sw_sum st ≤ 8 then sw_go (pc + len) ls st (sw_set M b (va_cpy (M a) (M b) sp.toNatClampNeg dp.toNatClampNeg n.toNatClampNeg)) else none
  | _ => none
def sw_oMax : sw_Op := fun pc len _ _ ls st M => match st with
  | .int y :: .int x :: st => if sw_sum st ≤ 8 then sw_go (pc + len) ls (.int (if x < y then y else x) :: st) M else none
  | _ => none
def sw_oMin : sw_Op := fun pc len _ _ ls st M => match st with
  | .int y :: .int x :: st => if sw_sum st ≤ 8 then sw_go (pc + len) ls (.int (if y < x then y else x) :: st) M else none
  | _ => none
def sw_oAbs : sw_Op := fun pc len _ _ ls st M => match st with
  | .int x :: st => if sw_sum st ≤ 8 then sw_go (pc + len) ls (.int (if 0 ≤ x then x else 0 - x) :: st) M else none
  | _ => none
def sw_oIret : sw_Op := fun _ _ _ _ _ st M => match st with
  | [.int x] => sw_rtn (some (.int x)) M
  | _ => none
def sw_oZret : sw_Op := fun _ _ _ _ _ st M => match st with
  | [.int x] => if x = 0 ∨ x = 1 then sw_rtn (some (.int x)) M else none
  | _ => none
def sw_oAret : sw_Op := fun _ _ _ _ _ st M => match st with
  | [.ref x] => sw_rtn (some (.ref x)) M
  | _ => none
def sw_oVret : sw_Op := fun _ _ _ _ _ st M => match st with
  | [] => sw_rtn none M
  | _ => none
/-! the table of operations: the instruction; what is checked of it; what it does -/
def sw_f4 (ns : List Nat) : Fin 4 := Fin.ofNat 4 (sw_n ns 0)
def sw_i (ns : List Nat) : Nat := sw_n ns 0
/-- a word of the claim's tables, by its place -/
def sw_w (ns : List Nat) (i : Nat) (w : Cond) : Bool := decide (lw_tbl[sw_n ns i]? = some w) && goodWord w
def sw_tg (pc : Nat) (zs : List Int) (ns : List Nat) : Bool := decide ((pc : Int) + sw_z zs = (sw_n ns 0 : Int))
abbrev sw_Chk : Type := Nat → Nat → List Int → List Nat → Bool
abbrev sw_Row : Type := (List Int → List Nat → Instr) × sw_Chk × sw_Op
def sw_cnT : List String := [RX0, RX1, RX2, RX3, RX4, RX5, RX6, RX7, RX8, RX9, RX10, RJ9, RJ7, RL]
def sw_cn (o : Nat) : String := sw_cnT.getD o ""
def sw_ok : sw_Chk := fun _ _ _ _ => true
def sw_ok4 : sw_Chk := fun _ _ _ ns => decide (sw_n ns 0 < 4)
def sw_okJ : sw_Chk := fun _ pc zs ns => sw_tg pc zs ns
def sw_lit (o : Nat) (ns : List Nat) (w : String → Cond) : Bool := sw_w ns 1 (w (sw_cn o))
/-- a field's word: the link names the field of class ns 1 at ns 2 -/
def sw_okF (fin : Bool) (kinds : List Nat) : sw_Chk := fun o _ _ ns => match vwCl[sw_n ns 1]? with
  | some q => sw_w ns 3 (.fieldLink (sw_cn o) (sw_n ns 0) (q.2.1 (sw_n ns 2)).1 (q.2.1 (sw_n ns 2)).2.1 (q.2.1 (sw_n ns 2)).2.2.1) && decide (sw_n ns 2 < q.2.2 ∧ q.2.2 = sw_nf (sw_n ns 1)) && (fin || !(q.2.1 (sw_n ns 2)).2.2.2) && kinds.contains (sw_fk (sw_n ns 1) (sw_n ns 2))
  | none => false
def sw_gsT : List String := ["NEXT_WIDER", "SIZES", "MARKS"]
def sw_okG : sw_Chk := fun o _ _ ns => decide (sw_n ns 1 < 3) && sw_w ns 2 (.fieldLink (sw_cn o) (sw_n ns 0) "StoneWed$Kinds" (sw_gsT.getD (sw_n ns 1) "") "[I")
def sw_insT : List (Nat → List Int → List Nat → Instr) := [fun pc zs ns => .iconst (sw_z zs),
  fun pc zs ns => .bipush (sw_z zs),
  fun pc zs ns => .sipush (sw_z zs),
  fun pc zs ns => .ldc (sw_n ns 0),
  fun pc zs ns => .ldc_w (sw_n ns 0),
  fun pc zs ns => .ldc2_w (sw_n ns 0),
  fun pc zs ns => .lconst (Fin.ofNat 2 (sw_n ns 0)),
  fun pc zs ns => .iload_n (sw_f4 ns),
  fun pc zs ns => .iload (sw_n ns 0),
  fun pc zs ns => .lload_n (sw_f4 ns),
  fun pc zs ns => .lload (sw_n ns 0),
  fun pc zs ns => .aload_n (sw_f4 ns),
  fun pc zs ns => .istore_n (sw_f4 ns),
  fun pc zs ns => .istore (sw_n ns 0),
  fun pc zs ns => .lstore (sw_n ns 0),
  fun pc zs ns => .astore_n (sw_f4 ns),
  fun pc zs ns => .iinc (sw_n ns 0) (sw_z zs),
  fun pc zs ns => .iadd,
  fun pc zs ns => .isub,
  fun pc zs ns => .imul,
  fun pc zs ns => .idiv,
  fun pc zs ns => .irem,
  fun pc zs ns => .ineg,
  fun pc zs ns => .iand,
  fun pc zs ns => .ior,
  fun pc zs ns => .ishl,
  fun pc zs ns => .ishr,
  fun pc zs ns => .ladd,
  fun pc zs ns => .lmul,
  fun pc zs ns => .lrem,
  fun pc zs ns => .lcmp,
  fun pc zs ns => .i2l,
  fun pc zs ns => .l2i,
  fun pc zs ns => .i2b,
  fun pc zs ns => .i2s,
  fun pc zs ns => .dup,
  fun pc zs ns => .dup2,
  fun pc zs ns => .pop,
  fun pc zs ns => .ifCond .eq ((sw_n ns 0 : Int) - (pc : Int)),
  fun pc zs ns => .ifCond .ne ((sw_n ns 0 : Int) - (pc : Int)),
  fun pc zs ns => .ifCond .lt ((sw_n ns 0 : Int) - (pc : Int)),
  fun pc zs ns => .ifCond .ge ((sw_n ns 0 : Int) - (pc : Int)),
  fun pc zs ns => .ifCond .gt ((sw_n ns 0 : Int) - (pc : Int)),
  fun pc zs ns => .ifCond .le ((sw_n ns 0 : Int) - (pc : Int)),
  fun pc zs ns => .if_icmp .eq ((sw_n ns 0 : Int) - (pc : Int)),
  fun pc zs ns => .if_icmp .ne ((sw_n ns 0 : Int) - (pc : Int)),
  fun pc zs ns => .if_icmp .lt ((sw_n ns 0 : Int) - (pc : Int)),
  fun pc zs ns => .if_icmp .ge ((sw_n ns 0 : Int) - (pc : Int)),
  fun pc zs ns => .if_icmp .gt ((sw_n ns 0 : Int) - (pc : Int)),
  fun pc zs ns => .if_icmp .le ((sw_n ns 0 : Int) - (pc : Int)),
  fun pc zs ns => .goto ((sw_n ns 0 : Int) - (pc : Int)),
  fun pc zs ns => .tableswitch ((ns.getLastD 0 : Nat) - (pc : Int)) (zs.headD 0) (zs.getLastD 0) ((ns.dropLast.map (fun t : Nat => (t : Int) - (pc : Int))).toArray),
  fun pc zs ns => .lookupswitch ((ns.getLastD 0 : Nat) - (pc : Int)) ((zs.zip (ns.dropLast.map (fun t : Nat => (t : Int) - (pc : Int)))).toArray),
  fun pc zs ns => .getfield (sw_n ns 0),
  fun pc zs ns => .putfield (sw_n ns 0),
  fun pc zs ns => .putfield (sw_n ns 0),
  fun pc zs ns => .putfield (sw_n ns 0),
  fun pc zs ns => .getstatic (sw_n ns 0),
  fun pc zs ns => .iaload,
  fun pc zs ns => .iaload,
  fun pc zs ns => .iastore,
  fun pc zs ns => .aaload,
  fun pc zs ns => .baload,
  fun pc zs ns => .bastore,
  fun pc zs ns => .arraylength,
  fun pc zs ns => .arraylength,
  fun pc zs ns => .invokestatic (sw_n ns 0),
  fun pc zs ns => .invokevirtual (sw_n ns 0),
  fun pc zs ns => .invokestatic (sw_n ns 0),
  fun pc zs ns => .invokestatic (sw_n ns 0),
  fun pc zs ns => .invokestatic (sw_n ns 0),
  fun pc zs ns => .invokestatic (sw_n ns 0),
  fun pc zs ns => .ireturn,
  fun pc zs ns => .ireturn,
  fun pc zs ns => .areturn,
  fun pc zs ns => .return_]
def sw_opT : List sw_Op := [sw_oConst Int32.ofInt,
  sw_oConst (fun n => (Int8.ofInt n).toInt32),
  sw_oConst (fun n => (Int16.ofInt n).toInt32),
  sw_oConst Int32.ofInt,
  sw_oConst Int32.ofInt,
  sw_oLong,
  sw_oLconst,
  sw_oIload,
  sw_oIload,
  sw_oLload,
  sw_oLload,
  sw_oAload,
  sw_oIstore,
  sw_oIstore,
  sw_oLstore,
  sw_oAstore,
  sw_oIinc,
  sw_oBin (fun x y => x + y),
  sw_oBin (fun x y => x - y),
  sw_oBin (fun x y => x * y),
  sw_oDiv (fun x y => x / y),
  sw_oDiv (fun x y => x - x / y * y),
  sw_oUn (fun x => -x),
  sw_oBin (fun x y => x &&& y),
  sw_oBin (fun x y => x ||| y),
  sw_oBin (fun x y => x <<< (y &&& 31)),
  sw_oBin (fun x y => x >>> (y &&& 31)),
  sw_oLBin (fun x y => x + y),
  sw_oLBin (fun x y => x * y),
  sw_oLrem,
  sw_oLcmp,
  sw_oI2l,
  sw_oL2i,
  sw_oUn (fun x => x.toInt8.toInt32),
  sw_oUn (fun x => x.toInt16.toInt32),
  sw_oDup,
  sw_oDup2,
  sw_oPop,
  sw_oIf (fun x => x = 0),
  sw_oIf (fun x => ¬ x = 0),
  sw_oIf (fun x => x < 0),
  sw_oIf (fun x => 0 ≤ x),
  sw_oIf (fun x => 0 < x),
  sw_oIf (fun x => x ≤ 0),
  sw_oCmp (fun x y => x = y),
  sw_oCmp (fun x y => ¬ x = y),
  sw_oCmp (fun x y => x < y),
  sw_oCmp (fun x y => y ≤ x),
  sw_oCmp (fun x y => y < x),
  sw_oCmp (fun x y => x ≤ y),
  sw_oGoto,
  sw_oSwitch,
  sw_oSwitch,
  sw_oGetf,
  sw_oPutf,
  sw_oPutz,
  sw_oPutr,
  sw_oGets,
  sw_oIald,
  sw_oIaldR,
  sw_oIast,
  sw_oAald,
  sw_oBald,
  sw_oBast,
  sw_oAlen,
  sw_oAlenR,
  sw_oCallS,
  sw_oCallV,
  sw_oCopy,
  sw_oMax,
  sw_oMin,
  sw_oAbs,
  sw_oIret,
  sw_oZret,
  sw_oAret,
  sw_oVret]
def sw_lenT : List Nat := [1, 2, 3, 2, 3, 3, 1, 1, 2, 1, 2, 1, 1, 2, 2, 1, 3, 1, 1, 1, 1, 1, 1, 1, 1, 1, 1, 1, 1, 1, 1, 1, 1, 1, 1, 1, 1, 1, 3, 3, 3, 3, 3, 3, 3, 3, 3, 3, 3, 3, 3, 0, 0, 3, 3, 3, 3, 3, 1, 1, 1, 1, 1, 1, 1, 1, 3, 3, 3, 3, 3, 3, 1, 1, 1, 1]
def sw_len (k : Nat) : Nat := sw_lenT.getD k 0
def sw_no : sw_Op := fun _ _ _ _ _ _ _ => none
def sw_ins (k : Nat) : Nat → List Int → List Nat → Instr := sw_insT.getD k (fun _ _ _ => .nop)
def sw_op (k : Nat) : sw_Op := sw_opT.getD k sw_no
/-- an instruction: its place, its operation, its length, its numbers, its places -/
abbrev sw_E : Type := Nat × Nat × Nat × List Int × List Nat
/-- a method: its class (place in sw_cnT), its name, its code, how many locals, what it answers, its instructions -/
abbrev sw_Mt : Type := Nat × MethodName × ByteArray × Nat × Option FieldType × List Nat × List sw_E
def sw_find (l : List sw_E) (pc : Nat) : Option sw_E := l.find? (fun e => e.1 == pc)
