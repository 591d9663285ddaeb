/-! one instruction, a row -/
section SWQ
variable {d k pc : Nat} {ls st : List Value} {M : sw_Mem} {Q : Option Value → sw_Mem → Prop}
theorem q_iconst {z : Int} {v : Int32} (hf : sw_fetch k pc = some (pc, 0, 1, [z], [])) (hv : Int32.ofInt z = v) : sw_WP d k pc ls st M Q = sw_WP d k (pc + 1) ls (.int v :: st) M Q := by subst hv; exact sw_nx hf rfl
theorem q_bipush {z : Int} {v : Int32} (hf : sw_fetch k pc = some (pc, 1, 2, [z], [])) (hv : (Int8.ofInt z).toInt32 = v) : sw_WP d k pc ls st M Q = sw_WP d k (pc + 2) ls (.int v :: st) M Q := by subst hv; exact sw_nx hf rfl
theorem q_sipush {z : Int} {v : Int32} (hf : sw_fetch k pc = some (pc, 2, 3, [z], [])) (hv : (Int16.ofInt z).toInt32 = v) : sw_WP d k pc ls st M Q = sw_WP d k (pc + 3) ls (.int v :: st) M Q := by subst hv; exact sw_nx hf rfl
theorem q_ldc {z : Int} {v : Int32} {ns : List Nat} (hf : sw_fetch k pc = some (pc, 3, 2, [z], ns)) (hv : Int32.ofInt z = v) : sw_WP d k pc ls st M Q = sw_WP d k (pc + 2) ls (.int v :: st) M Q := by subst hv; exact sw_nx hf rfl
theorem q_ldc_w {z : Int} {v : Int32} {ns : List Nat} (hf : sw_fetch k pc = some (pc, 4, 3, [z], ns)) (hv : Int32.ofInt z = v) : sw_WP d k pc ls st M Q = sw_WP d k (pc + 3) ls (.int v :: st) M Q := by subst hv; exact sw_nx hf rfl
theorem q_ldc2 {z : Int} {v : Int64} {ns : List Nat} (hf : sw_fetch k pc = some (pc, 5, 3, [z], ns)) (hv : Int64.ofInt z = v) : sw_WP d k pc ls st M Q = sw_WP d k (pc + 3) ls (.long v :: st) M Q := by subst hv; exact sw_nx hf rfl
theorem q_lconst {n : Nat} (hf : sw_fetch k pc = some (pc, 6, 1, [], [n])) : sw_WP d k pc ls st M Q = sw_WP d k (pc + 1) ls (.long (lN n) :: st) M Q := sw_nx hf rfl
theorem q_iload {op len i : Nat} {x : Int32} (hf : sw_fetch k pc = some (pc, op, len, [], [i])) (ho : sw_op op = sw_oIload) (hl : ls[i]? = some (.int x)) : sw_WP d k pc ls st M Q = sw_WP d k (pc + len) ls (.int x :: st) M Q := sw_nx hf (by
  show sw_op op pc len [] [i] ls st M = _
  rw [ho]
  show (match ls[i]? with | some (.int x) => sw_go (pc + len) ls (.int x :: st) M | _ => none) = _
  rw [hl])
theorem q_lload {op len i : Nat} {x : Int64} (hf : sw_fetch k pc = some (pc, op, len, [], [i])) (ho : sw_op op = sw_oLload) (hl : ls[i]? = some (.long x)) : sw_WP d k pc ls st M Q = sw_WP d k (pc + len) ls (.long x :: st) M Q := sw_nx hf (by
  show sw_op op pc len [] [i] ls st M = _
  rw [ho]
  show (match ls[i]? with | some (.long x) => sw_go (pc + len) ls (.long x :: st) M | _ => none) = _
  rw [hl])
theorem q_aload {i x : Nat} (hf : sw_fetch k pc = some (pc, 11, 1, [], [i])) (hl : ls[i]? = some (.ref x)) : sw_WP d k pc ls st M Q = sw_WP d k (pc + 1) ls (.ref x :: st) M Q := sw_nx hf (by
  show (match ls[i]? with | some (.ref x) => sw_go (pc + 1) ls (.ref x :: st) M | _ => none) = _
  rw [hl])
theorem q_istore {op len i : Nat} {x : Int32} {ls' : List Value} (hf : sw_fetch k pc = some (pc, op, len, [], [i])) (ho : sw_op op = sw_oIstore) (hi : i < ls.length) (hl : sw_st1 i (.int x) ls = ls') : sw_WP d k pc ls (.int x :: st) M Q = sw_WP d k (pc + len) ls' st M Q := by
  subst hl
  refine sw_nx hf ?_
  show sw_op op pc len [] [i] ls _ M = _
  rw [ho]
  show (if i < ls.length then sw_go (pc + len) (sw_st1 i (.int x) ls) st M else none) = _
  rw [if_pos hi]
theorem q_astore {i x : Nat} {ls' : List Value} (hf : sw_fetch k pc = some (pc, 15, 1, [], [i])) (hi : i < ls.length) (hl : sw_st1 i (.ref x) ls = ls') : sw_WP d k pc ls (.ref x :: st) M Q = sw_WP d k (pc + 1) ls' st M Q := by
  subst hl
  refine sw_nx hf ?_
  show (if i < ls.length then sw_go (pc + 1) (sw_st1 i (.ref x) ls) st M else none) = _
  rw [if_pos hi]
theorem q_lstore {i : Nat} {x : Int64} {ls' : List Value} (hf : sw_fetch k pc = some (pc, 14, 2, [], [i])) (hi : i + 1 < ls.length) (hl : sw_st2 i (.long x) ls = ls') : sw_WP d k pc ls (.long x :: st) M Q = sw_WP d k (pc + 2) ls' st M Q := by
  subst hl
  refine sw_nx hf ?_
  show (if i + 1 < ls.length then sw_go (pc + 2) (sw_st2 i (.long x) ls) st M else none) = _
  rw [if_pos hi]
theorem q_iinc {i : Nat} {z : Int} {x : Int32} {ls' : List Value} (hf : sw_fetch k pc = some (pc, 16, 3, [z], [i])) (hl : ls[i]? = some (.int x)) (hl' : sw_st1 i (.int (x + Int32.ofInt z)) ls = ls') : sw_WP d k pc ls st M Q = sw_WP d k (pc + 3) ls' st M Q := by
  subst hl'
  refine sw_nx hf ?_
  show (match ls[i]? with | some (.int x) => sw_go (pc + 3) (sw_st1 i (.int (x + Int32.ofInt z)) ls) st M | _ => none) = _
  rw [hl]
theorem q_bin {op : Nat} {f : Int32 → Int32 → Int32} {x y : Int32} (hf : sw_fetch k pc = some (pc, op, 1, [], [])) (ho : sw_op op = sw_oBin f) : sw_WP d k pc ls (.int y :: .int x :: st) M Q = sw_WP d k (pc + 1) ls (.int (f x y) :: st) M Q := sw_nx hf (by
  show sw_op op pc 1 [] [] ls _ M = _
  rw [ho]
  rfl)
theorem q_div {op : Nat} {f : Int32 → Int32 → Int32} {x y : Int32} (hf : sw_fetch k pc = some (pc, op, 1, [], [])) (ho : sw_op op = sw_oDiv f) : sw_WP d k pc ls (.int y :: .int x :: st) M Q = (¬ y = 0 ∧ sw_WP d k (pc + 1) ls (.int (f x y) :: st) M Q) := sw_cn1 hf (by
  show sw_op op pc 1 [] [] ls _ M = _
  rw [ho]
  rfl)
theorem q_un {op : Nat} {f : Int32 → Int32} {x : Int32} (hf : sw_fetch k pc = some (pc, op, 1, [], [])) (ho : sw_op op = sw_oUn f) : sw_WP d k pc ls (.int x :: st) M Q = sw_WP d k (pc + 1) ls (.int (f x) :: st) M Q := sw_nx hf (by
  show sw_op op pc 1 [] [] ls _ M = _
  rw [ho]
  rfl)
theorem q_lbin {op : Nat} {f : Int64 → Int64 → Int64} {x y : Int64} (hf : sw_fetch k pc = some (pc, op, 1, [], [])) (ho : sw_op op = sw_oLBin f) : sw_WP d k pc ls (.long y :: .long x :: st) M Q = sw_WP d k (pc + 1) ls (.long (f x y) :: st) M Q := sw_nx hf (by
  show sw_op op pc 1 [] [] ls _ M = _
  rw [ho]
  rfl)
theorem q_lrem {x y : Int64} (hf : sw_fetch k pc = some (pc, 29, 1, [], [])) : sw_WP d k pc ls (.long y :: .long x :: st) M Q = (¬ y = 0 ∧ sw_WP d k (pc + 1) ls (.long (x - x / y * y) :: st) M Q) := sw_cn1 hf rfl
theorem q_lcmp {x y : Int64} (hf : sw_fetch k pc = some (pc, 30, 1, [], [])) : sw_WP d k pc ls (.long y :: .long x :: st) M Q = sw_WP d k (pc + 1) ls (.int (lg_cmp x y) :: st) M Q := sw_nx hf rfl
theorem q_i2l {x : Int32} (hf : sw_fetch k pc = some (pc, 31, 1, [], [])) : sw_WP d k pc ls (.int x :: st) M Q = sw_WP d k (pc + 1) ls (.long x.toInt64 :: st) M Q := sw_nx hf rfl
theorem q_l2i {x : Int64} (hf : sw_fetch k pc = some (pc, 32, 1, [], [])) : sw_WP d k pc ls (.long x :: st) M Q = sw_WP d k (pc + 1) ls (.int x.toInt32 :: st) M Q := sw_nx hf rfl
theorem q_dupI {x : Int32} (hf : sw_fetch k pc = some (pc, 35, 1, [], [])) : sw_WP d k pc ls (.int x :: st) M Q = sw_WP d k (pc + 1) ls (.int x :: .int x :: st) M Q := sw_nx hf rfl
theorem q_dupR {x : Nat} (hf : sw_fetch k pc = some (pc, 35, 1, [], [])) : sw_WP d k pc ls (.ref x :: st) M Q = sw_WP d k (pc + 1) ls (.ref x :: .ref x :: st) M Q := sw_nx hf rfl
theorem q_dup2 {x : Int32} {y : Nat} (hf : sw_fetch k pc = some (pc, 36, 1, [], [])) : sw_WP d k pc ls (.int x :: .ref y :: st) M Q = sw_WP d k (pc + 1) ls (.int x :: .ref y :: .int x :: .ref y :: st) M Q := sw_nx hf rfl
theorem q_popI {x : Int32} (hf : sw_fetch k pc = some (pc, 37, 1, [], [])) : sw_WP d k pc ls (.int x :: st) M Q = sw_WP d k (pc + 1) ls st M Q := sw_nx hf rfl
theorem q_popR {x : Nat} (hf : sw_fetch k pc = some (pc, 37, 1, [], [])) : sw_WP d k pc ls (.ref x :: st) M Q = sw_WP d k (pc + 1) ls st M Q := sw_nx hf rfl
theorem q_if {op t : Nat} {P : Int32 → Prop} [DecidablePred P] {x : Int32} (hf : sw_fetch k pc = some (pc, op, 3, [], [t])) (ho : sw_op op = sw_oIf P) : sw_WP d k pc ls (.int x :: st) M Q = if P x then sw_WP d k t ls st M Q else sw_WP d k (pc + 3) ls st M Q := sw_br hf (by
  show sw_op op pc 3 [] [t] ls _ M = _
  rw [ho]
  rfl)
theorem q_cmp {op t : Nat} {P : Int32 → Int32 → Prop} [∀ x y, Decidable (P x y)] {x y : Int32} (hf : sw_fetch k pc = some (pc, op, 3, [], [t])) (ho : sw_op op = sw_oCmp P) : sw_WP d k pc ls (.int y :: .int x :: st) M Q = if P x y then sw_WP d k t ls st M Q else sw_WP d k (pc + 3) ls st M Q := sw_br hf (by
  show sw_op op pc 3 [] [t] ls _ M = _
  rw [ho]
  rfl)
theorem q_goto {t : Nat} (hf : sw_fetch k pc = some (pc, 50, 3, [], [t])) : sw_WP d k pc ls st M Q = sw_WP d k t ls st M Q := sw_nx hf rfl
theorem q_switch {op len : Nat} {zs : List Int} {ns : List Nat} {x : Int32} (hf : sw_fetch k pc = some (pc, op, len, zs, ns)) (ho : sw_op op = sw_oSwitch) : sw_WP d k pc ls (.int x :: st) M Q = sw_WP d k (sw_pick zs ns x.toInt) ls st M Q := sw_nx hf (by
  show sw_op op pc len zs ns ls _ M = _
  rw [ho]
  rfl)
theorem q_get {ix c j ps o : Nat} {v : Value} (hf : sw_fetch k pc = some (pc, 53, 3, [], [ix, c, j, ps])) (hv : sw_gf c j o M = v) : sw_WP d k pc ls (.ref o :: st) M Q = (sw_kd o = c ∧ sw_WP d k (pc + 3) ls (v :: st) M Q) := by
  subst hv
  exact sw_cn1 hf rfl
theorem q_get1 {ix c j ps o : Nat} {v : Value} (hf : sw_fetch k pc = some (pc, 53, 3, [], [ix, c, j, ps])) (hk : sw_kd o = c) (hv : sw_gf c j o M = v) : sw_WP d k pc ls (.ref o :: st) M Q = sw_WP d k (pc + 3) ls (v :: st) M Q := by rw [q_get hf hv, eq_true hk, true_and]
theorem q_put {ix c j ps o : Nat} {v : Int32} (hf : sw_fetch k pc = some (pc, 54, 3, [], [ix, c, j, ps])) : sw_WP d k pc ls (.int v :: .ref o :: st) M Q = (sw_kd o = c ∧ sw_WP d k (pc + 3) ls st (sw_up M o j v) Q) := sw_cn1 hf rfl
theorem q_put1 {ix c j ps o : Nat} {v : Int32} (hf : sw_fetch k pc = some (pc, 54, 3, [], [ix, c, j, ps])) (hk : sw_kd o = c) : sw_WP d k pc ls (.int v :: .ref o :: st) M Q = sw_WP d k (pc + 3) ls st (sw_up M o j v) Q := by rw [q_put hf, eq_true hk, true_and]
theorem q_putz {ix c j ps o : Nat} {v : Int32} (hf : sw_fetch k pc = some (pc, 55, 3, [], [ix, c, j, ps])) (hk : sw_kd o = c) : sw_WP d k pc ls (.int v :: .ref o :: st) M Q = ((v = 0 ∨ v = 1) ∧ sw_WP d k (pc + 3) ls st (sw_up M o j v) Q) := by
  have h : sw_WP d k pc ls (.int v :: .ref o :: st) M Q = ((sw_kd o = c ∧ (v = 0 ∨ v = 1)) ∧ sw_WP d k (pc + 3) ls st (sw_up M o j v) Q) := sw_cn1 hf rfl
  rw [h, eq_true hk, true_and]
theorem q_putr {ix c j ps o t : Nat} (hf : sw_fetch k pc = some (pc, 56, 3, [], [ix, c, j, ps])) (hk : sw_kd o = c) (ht : sw_kd t = 6) : sw_WP d k pc ls (.ref t :: .ref o :: st) M Q = sw_WP d k (pc + 3) ls st (sw_up M o j (nI t)) Q := by
  have h : sw_WP d k pc ls (.ref t :: .ref o :: st) M Q = ((sw_kd o = c ∧ sw_kd t = 6) ∧ sw_WP d k (pc + 3) ls st (sw_up M o j (nI t)) Q) := sw_cn1 hf rfl
  rw [h, eq_true hk, eq_true ht, true_and, true_and]
theorem q_gets {ix w ps t : Nat} (hf : sw_fetch k pc = some (pc, 57, 3, [], [ix, w, ps])) (ht : 109 + w = t) : sw_WP d k pc ls st M Q = sw_WP d k (pc + 3) ls (.ref t :: st) M Q := by subst ht; exact sw_nx hf rfl
theorem q_iald {a : Nat} {i : Int32} (hf : sw_fetch k pc = some (pc, 58, 1, [], [])) : sw_WP d k pc ls (.int i :: .ref a :: st) M Q = ((sw_kd a = 10 ∧ vp_in i (sw_ln a)) ∧ sw_WP d k (pc + 1) ls (.int (M a i.toNatClampNeg) :: st) M Q) := sw_cn1 (c := sw_kd a = 10 ∧ sw_ib i (sw_ln a)) hf rfl
theorem q_iald1 {a n : Nat} {i : Int32} (hf : sw_fetch k pc = some (pc, 58, 1, [], [])) (hk : sw_kd a = 10) (hn : sw_ln a = n) : sw_WP d k pc ls (.int i :: .ref a :: st) M Q = (vp_in i n ∧ sw_WP d k (pc + 1) ls (.int (M a i.toNatClampNeg) :: st) M Q) := by rw [q_iald hf, eq_true hk, true_and, hn]
theorem q_ialdR {a : Nat} {i : Int32} (hf : sw_fetch k pc = some (pc, 59, 1, [], [])) : sw_WP d k pc ls (.int i :: .ref a :: st) M Q = ((sw_kd a = 14 ∧ vp_in i (sw_rl M a)) ∧ sw_WP d k (pc + 1) ls (.int (M a i.toNatClampNeg) :: st) M Q) := sw_cn1 (c := sw_kd a = 14 ∧ sw_ib i (sw_rl M a)) hf rfl
theorem q_iast {a : Nat} {i x : Int32} (hf : sw_fetch k pc = some (pc, 60, 1, [], [])) : sw_WP d k pc ls (.int x :: .int i :: .ref a :: st) M Q = ((sw_kd a = 10 ∧ vp_in i (sw_ln a)) ∧ sw_WP d k (pc + 1) ls st (sw_up M a i.toNatClampNeg x) Q) := sw_cn1 (c := sw_kd a = 10 ∧ sw_ib i (sw_ln a)) hf rfl
theorem q_iast1 {a n : Nat} {i x : Int32} (hf : sw_fetch k pc = some (pc, 60, 1, [], [])) (hk : sw_kd a = 10) (hn : sw_ln a = n) : sw_WP d k pc ls (.int x :: .int i :: .ref a :: st) M Q = (vp_in i n ∧ sw_WP d k (pc + 1) ls st (sw_up M a i.toNatClampNeg x) Q) := by rw [q_iast hf, eq_true hk, true_and, hn]
theorem q_aald1 {a n : Nat} {i : Int32} (hf : sw_fetch k pc = some (pc, 61, 1, [], [])) (hk : sw_kd a = 12 ∨ sw_kd a = 13) (hn : sw_ln a = n) : sw_WP d k pc ls (.int i :: .ref a :: st) M Q = (vp_in i n ∧ sw_WP d k (pc + 1) ls (.ref (sw_rt a i.toNatClampNeg) :: st) M Q) := by
  have h : sw_WP d k pc ls (.int i :: .ref a :: st) M Q = (((sw_kd a = 12 ∨ sw_kd a = 13) ∧ vp_in i (sw_ln a)) ∧ sw_WP d k (pc + 1) ls (.ref (sw_rt a i.toNatClampNeg) :: st) M Q) := sw_cn1 (c := (sw_kd a = 12 ∨ sw_kd a = 13) ∧ sw_ib i (sw_ln a)) hf rfl
  rw [h, eq_true hk, true_and, hn]
theorem q_bald1 {a n : Nat} {i : Int32} (hf : sw_fetch k pc = some (pc, 62, 1, [], [])) (hk : sw_kd a = 11) (hn : sw_ln a = n) : sw_WP d k pc ls (.int i :: .ref a :: st) M Q = (vp_in i n ∧ sw_WP d k (pc + 1) ls (.int (M a i.toNatClampNeg) :: st) M Q) := by
  have h : sw_WP d k pc ls (.int i :: .ref a :: st) M Q = ((sw_kd a = 11 ∧ vp_in i (sw_ln a)) ∧ sw_WP d k (pc + 1) ls (.int (M a i.toNatClampNeg) :: st) M Q) := sw_cn1 (c := sw_kd a = 11 ∧ sw_ib i (sw_ln a)) hf rfl
  rw [h, eq_true hk, true_and, hn]
theorem q_bast1 {a n : Nat} {i x : Int32} (hf : sw_fetch k pc = some (pc, 63, 1, [], [])) (hk : sw_kd a = 11) (hn : sw_ln a = n) : sw_WP d k pc ls (.int x :: .int i :: .ref a :: st) M Q = (((x = 0 ∨ x = 1) ∧ vp_in i n) ∧ sw_WP d k (pc + 1) ls st (sw_up M a i.toNatClampNeg x) Q) := by
  have h : sw_WP d k pc ls (.int x :: .int i :: .ref a :: st) M Q = (((sw_kd a = 11 ∧ (x = 0 ∨ x = 1)) ∧ vp_in i (sw_ln a)) ∧ sw_WP d k (pc + 1) ls st (sw_up M a i.toNatClampNeg x) Q) := sw_cn1 (c := (sw_kd a = 11 ∧ (x = 0 ∨ x = 1)) ∧ sw_ib i (sw_ln a)) hf rfl
  rw [h, eq_true hk, true_and, hn]
theorem q_alen {a : Nat} (hf : sw_fetch k pc = some (pc, 64, 1, [], [])) : sw_WP d k pc ls (.ref a :: st) M Q = (sw_kd a = 10 ∧ sw_WP d k (pc + 1) ls (.int (nI (sw_ln a)) :: st) M Q) := sw_cn1 hf rfl
theorem q_alenR {a : Nat} (hf : sw_fetch k pc = some (pc, 65, 1, [], [])) (hk : sw_kd a = 14) : sw_WP d k pc ls (.ref a :: st) M Q = sw_WP d k (pc + 1) ls (.int (nI (sw_rl M a)) :: st) M Q := by
  have h : sw_WP d k pc ls (.ref a :: st) M Q = (sw_kd a = 14 ∧ sw_WP d k (pc + 1) ls (.int (nI (sw_rl M a)) :: st) M Q) := sw_cn1 hf rfl
  rw [h, eq_true hk, true_and]
theorem q_callS {ix k2 n ps : Nat} {as st0 rest : List Value} (hf : sw_fetch k pc = some (pc, 66, 3, [], [ix, k2, n, ps])) (h1 : n ≤ st0.length ∧ sw_sum (st0.drop n) ≤ 8) (h2 : (st0.take n).reverse = as) (h3 : st0.drop n = rest) : sw_WP d k pc ls st0 M Q = sw_Cal d k2 as M (fun r M1 => sw_WP d k (pc + 3) ls (sw_pu r rest) M1 Q) := by
  subst h2 h3
  have h : sw_WP d k pc ls st0 M Q = ((n ≤ st0.length ∧ sw_sum (st0.drop n) ≤ 8) ∧ sw_Cal d k2 (st0.take n).reverse M (fun r M1 => sw_WP d k (pc + 3) ls (sw_pu r (st0.drop n)) M1 Q)) := sw_clc hf rfl
  rw [h, eq_true h1, true_and]
theorem q_callV {ix k2 n c ps o : Nat} {as st0 rest : List Value} (hf : sw_fetch k pc = some (pc, 67, 3, [], [ix, k2, n, c, ps])) (hd : st0.drop n = .ref o :: rest) (h1 : n ≤ st0.length ∧ sw_sum rest ≤ 8) (h2 : (.ref o :: (st0.take n).reverse) = as) : sw_WP d k pc ls st0 M Q = (sw_kd o = c ∧ sw_Cal d k2 as M (fun r M1 => sw_WP d k (pc + 3) ls (sw_pu r rest) M1 Q)) := by
  subst h2
  have h : sw_WP d k pc ls st0 M Q = ((sw_kd o = c ∧ n ≤ st0.length ∧ sw_sum rest ≤ 8) ∧ sw_Cal d k2 (.ref o :: (st0.take n).reverse) M (fun r M1 => sw_WP d k (pc + 3) ls (sw_pu r rest) M1 Q)) := sw_clc hf (by
    show (match st0.drop n with | .ref o :: r => if sw_kd o = c ∧ n ≤ st0.length ∧ sw_sum r ≤ 8 then sw_cll k2 (.ref o :: (st0.take n).reverse) (pc + 3) ls r else none | _ => none) = _
    rw [hd])
  rw [h, eq_true h1, and_true]
theorem q_callV1 {ix k2 n c ps o : Nat} {as st0 rest : List Value} (hf : sw_fetch k pc = some (pc, 67, 3, [], [ix, k2, n, c, ps])) (hd : st0.drop n = .ref o :: rest) (h1 : n ≤ st0.length ∧ sw_sum rest ≤ 8) (h2 : (.ref o :: (st0.take n).reverse) = as) (hk : sw_kd o = c) : sw_WP d k pc ls st0 M Q = sw_Cal d k2 as M (fun r M1 => sw_WP d k (pc + 3) ls (sw_pu r rest) M1 Q) := by
  rw [q_callV hf hd h1 h2, eq_true hk, true_and]
theorem q_copy {ns : List Nat} {n dp sp : Int32} {a b : Nat} (hf : sw_fetch k pc = some (pc, 68, 3, [], ns)) (hs : sw_sum st ≤ 8) : sw_WP d k pc ls (.int n :: .int dp :: .ref b :: .int sp :: .ref a :: st) M Q = (((sw_kd a = 10 ∧ sw_kd b = 10) ∧ (¬ sp < 0 ∧ ¬ dp < 0 ∧ ¬ n < 0) ∧ sp.toNatClampNeg + n.toNatClampNeg ≤ sw_ln a ∧ dp.toNatClampNeg + n.toNatClampNeg ≤ sw_ln b) ∧ sw_WP d k (pc + 3) ls st (sw_set M b (va_cpy (M a) (M b) sp.toNatClampNeg dp.toNatClampNeg n.toNatClampNeg)) Q) := by
  have h : sw_WP d k pc ls (.int n :: .int dp :: .ref b :: .int sp :: .ref a :: st) M Q = ((((sw_kd a = 10 ∧ sw_kd b = 10) ∧ (¬ sp < 0 ∧ ¬ dp < 0 ∧ ¬ n < 0) ∧ sp.toNatClampNeg + n.toNatClampNeg ≤ sw_ln a ∧ dp.toNatClampNeg + n.toNatClampNeg ≤ sw_ln b) ∧ sw_sum st ≤ 8) ∧ sw_WP d k (pc + 3) ls st (sw_set M b (va_cpy (M a) (M b) sp.toNatClampNeg dp.toNatClampNeg n.toNatClampNeg)) Q) := sw_cn1 hf rfl
  rw [h, eq_true hs, and_true]
theorem q_max {ns : List Nat} {x y : Int32} (hf : sw_fetch k pc = some (pc, 69, 3, [], ns)) (hs : sw_sum st ≤ 8) : sw_WP d k pc ls (.int y :: .int x :: st) M Q = sw_WP d k (pc + 3) ls (.int (if x < y then y else x) :: st) M Q := by
  have h : sw_WP d k pc ls (.int y :: .int x :: st) M Q = (sw_sum st ≤ 8 ∧ sw_WP d k (pc + 3) ls (.int (if x < y then y else x) :: st) M Q) := sw_cn1 hf rfl
  rw [h, eq_true hs, true_and]
theorem q_min {ns : List Nat} {x y : Int32} (hf : sw_fetch k pc = some (pc, 70, 3, [], ns)) (hs : sw_sum st ≤ 8) : sw_WP d k pc ls (.int y :: .int x :: st) M Q = sw_WP d k (pc + 3) ls (.int (if y < x then y else x) :: st) M Q := by
  have h : sw_WP d k pc ls (.int y :: .int x :: st) M Q = (sw_sum st ≤ 8 ∧ sw_WP d k (pc + 3) ls (.int (if y < x then y else x) :: st) M Q) := sw_cn1 hf rfl
  rw [h, eq_true hs, true_and]
theorem q_abs {ns : List Nat} {x : Int32} (hf : sw_fetch k pc = some (pc, 71, 3, [], ns)) (hs : sw_sum st ≤ 8) : sw_WP d k pc ls (.int x :: st) M Q = sw_WP d k (pc + 3) ls (.int (if 0 ≤ x then x else 0 - x) :: st) M Q := by
  have h : sw_WP d k pc ls (.int x :: st) M Q = (sw_sum st ≤ 8 ∧ sw_WP d k (pc + 3) ls (.int (if 0 ≤ x then x else 0 - x) :: st) M Q) := sw_cn1 hf rfl
  rw [h, eq_true hs, true_and]
theorem q_iret {x : Int32} (hf : sw_fetch k pc = some (pc, 72, 1, [], [])) : sw_WP d k pc ls [.int x] M Q = Q (some (.int x)) M := sw_rt1 hf rfl
theorem q_zret {x : Int32} (hf : sw_fetch k pc = some (pc, 73, 1, [], [])) : sw_WP d k pc ls [.int x] M Q = ((x = 0 ∨ x = 1) ∧ Q (some (.int x)) M) := sw_rtc hf rfl
theorem q_aret {x : Nat} (hf : sw_fetch k pc = some (pc, 74, 1, [], [])) : sw_WP d k pc ls [.ref x] M Q = Q (some (.ref x)) M := sw_rt1 hf rfl
theorem q_vret (hf : sw_fetch k pc = some (pc, 75, 1, [], [])) : sw_WP d k pc ls [] M Q = Q none M := sw_rt1 hf rfl
end SWQ
/-! a valley's cells -/
theorem sw_val {v : Nat} (h : sw_kd v = 6) : v = 27 ∨ v = 34 ∨ v = 42 ∨ v = 49 ∨ v = 83 ∨ v = 92 := by
  have hv := sw_kd_lt (k := v) (by omega)
  have : ∀ v, v < 109 → sw_kd v = 6 → v = 27 ∨ v = 34 ∨ v = 42 ∨ v = 49 ∨ v = 83 ∨ v = 92 := by decide +kernel
  exact this v hv h
theorem sw_vk {v : Nat} (h : sw_kd v = 6) : sw_kd (v + 1) = 10 ∧ sw_kd (v + 2) = 10 ∧ sw_kd (v + 3) = 10 ∧ sw_kd (v + 4) = 10 ∧ sw_kd (v + 5) = 10 ∧ sw_kd (v + 6) = 10 ∧ sw_ln (v + 1) = 8 ∧ sw_ln (v + 2) = 8 ∧ sw_ln (v + 3) = 8 ∧ sw_ln (v + 4) = 4 ∧ sw_ln (v + 5) = 4 ∧ sw_ln (v + 6) = 4 := by
  rcases sw_val h with rfl | rfl | rfl | rfl | rfl | rfl <;> decide +kernel
theorem sw_vk1 {v : Nat} (h : sw_kd v = 6) : sw_kd (v + 1) = 10 := (sw_vk h).1
theorem sw_vk2 {v : Nat} (h : sw_kd v = 6) : sw_kd (v + 2) = 10 := (sw_vk h).2.1
theorem sw_vk3 {v : Nat} (h : sw_kd v = 6) : sw_kd (v + 3) = 10 := (sw_vk h).2.2.1
theorem sw_vk4 {v : Nat} (h : sw_kd v = 6) : sw_kd (v + 4) = 10 := (sw_vk h).2.2.2.1
theorem sw_vk5 {v : Nat} (h : sw_kd v = 6) : sw_kd (v + 5) = 10 := (sw_vk h).2.2.2.2.1
theorem sw_vk6 {v : Nat} (h : sw_kd v = 6) : sw_kd (v + 6) = 10 := (sw_vk h).2.2.2.2.2.1
theorem sw_vn1 {v : Nat} (h : sw_kd v = 6) : sw_ln (v + 1) = 8 := (sw_vk h).2.2.2.2.2.2.1
theorem sw_vn2 {v : Nat} (h : sw_kd v = 6) : sw_ln (v + 2) = 8 := (sw_vk h).2.2.2.2.2.2.2.1
theorem sw_vn3 {v : Nat} (h : sw_kd v = 6) : sw_ln (v + 3) = 8 := (sw_vk h).2.2.2.2.2.2.2.2.1
theorem sw_vn4 {v : Nat} (h : sw_kd v = 6) : sw_ln (v + 4) = 4 := (sw_vk h).2.2.2.2.2.2.2.2.2.1
theorem sw_vn5 {v : Nat} (h : sw_kd v = 6) : sw_ln (v + 5) = 4 := (sw_vk h).2.2.2.2.2.2.2.2.2.2.1
theorem sw_vn6 {v : Nat} (h : sw_kd v = 6) : sw_ln (v + 6) = 4 := (sw_vk h).2.2.2.2.2.2.2.2.2.2.2
