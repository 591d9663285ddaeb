/-! numbers for the rows: conditions over nI, by what is known of the naturals -/
theorem sw_pu_s (v : Value) (st : List Value) : sw_pu (some v) st = v :: st := rfl
theorem sw_pu_n (st : List Value) : sw_pu none st = st := rfl
theorem z_lt {a b : Nat} (ha : a < 2 ^ 31) (hb : b < 2 ^ 31) : (nI a < nI b) = (a < b) := propext (nI_ltI ha hb)
theorem z_le {a b : Nat} (ha : a < 2 ^ 31) (hb : b < 2 ^ 31) : (nI a ≤ nI b) = (a ≤ b) := propext (nI_leI ha hb)
theorem z_eq {a b : Nat} (ha : a < 2 ^ 31) (hb : b < 2 ^ 31) : (nI a = nI b) = (a = b) := propext (nI_eq ha hb)
theorem z_lt_t {a b : Nat} (h : a < b) (hb : b < 2 ^ 31) : (nI a < nI b) = True := eq_true (nI_lt h hb)
theorem z_lt_f {a b : Nat} (h : b ≤ a) (ha : a < 2 ^ 31) : (nI a < nI b) = False := eq_false (nI_nlt h ha)
theorem z_le_t {a b : Nat} (h : a ≤ b) (hb : b < 2 ^ 31) : (nI a ≤ nI b) = True := eq_true (nI_le h hb)
theorem z_le_f {a b : Nat} (h : b < a) (ha : a < 2 ^ 31) : (nI a ≤ nI b) = False := eq_false (nI_ge h ha)
theorem z_lt0 {a : Nat} (h : a < 2 ^ 31) : (nI a < 0) = False := eq_false (nI_pos h)
theorem z_ge0 {a : Nat} (h : a < 2 ^ 31) : (0 ≤ nI a) = True := eq_true (nI_pos' h)
theorem z_eq0 {a : Nat} (h : a < 2 ^ 31) : (nI a = 0) = (a = 0) := by rw [← nI_0]; exact z_eq h (by decide)
theorem z_le0 {a : Nat} (h : a < 2 ^ 31) : (nI a ≤ 0) = (a = 0) := by
  rw [← nI_0, z_le h (by decide)]
  exact propext Nat.le_zero
theorem z_gt0 {a : Nat} (h : a < 2 ^ 31) : (0 < nI a) = (0 < a) := by rw [← nI_0]; exact z_lt (by decide) h
theorem z_in {a n : Nat} (h : a < n) (ha : a < 2 ^ 31) : vp_in (nI a) n = True := by
  apply eq_true
  intro q
  rcases q with q | q
  · exact nI_pos ha q
  · rw [nI_clamp ha] at q
    omega
theorem z_cl {a : Nat} (h : a < 2 ^ 31) : (nI a).toNatClampNeg = a := nI_clamp h
theorem z_add (a b : Nat) : nI a + nI b = nI (a + b) := nI_add a b
theorem z_mul (a b : Nat) : nI a * nI b = nI (a * b) := pk_mul a b
theorem z_sub {a b : Nat} (h : b ≤ a) : nI a - nI b = nI (a - b) := pk_sub h
theorem z_div {a b : Nat} (h0 : 0 < b) (ha : a < 2 ^ 31) (hb : b < 2 ^ 31) : nI a / nI b = nI (a / b) := pk_div ha h0 hb
theorem z_rem {a b : Nat} (h0 : 0 < b) (ha : a < 2 ^ 31) (hb : b < 2 ^ 31) : nI a - nI a / nI b * nI b = nI (a % b) := pk_rem ha h0 hb
theorem z_TI {a : Nat} (h : a < 2 ^ 31) : (nI a).toInt = (a : Int) := nI_toInt h
theorem z_up_s (M : sw_Mem) (k j : Nat) (v : Int32) : sw_up M k j v k j = v := by simp [sw_up, sw_set, upd]
theorem z_up_n (M : sw_Mem) {k j k' : Nat} (v : Int32) (h : k' ≠ k) : sw_up M k j v k' = M k' := by simp [sw_up, sw_set, h]
theorem z_up_j (M : sw_Mem) {k j j' : Nat} (v : Int32) (h : j' ≠ j) : sw_up M k j v k j' = M k j' := by simp [sw_up, sw_set, upd, h]
theorem z_up (M : sw_Mem) (k j k' j' : Nat) (v : Int32) : sw_up M k j v k' j' = if k' = k ∧ j' = j then v else M k' j' := by
  by_cases h : k' = k
  · subst h
    by_cases h2 : j' = j
    · subst h2; simp [z_up_s]
    · simp [z_up_j _ _ h2, h2]
  · simp [z_up_n _ _ h, h]
theorem z_eq_f {a b : Nat} (h : a ≠ b) (ha : a < 2 ^ 31) (hb : b < 2 ^ 31) : (nI a = nI b) = False := eq_false (fun q => h ((nI_eq ha hb).mp q))
theorem z_ne0 {a : Nat} (h0 : 0 < a) (h : a < 2 ^ 31) : (nI a = 0) = False := eq_false (nI_ne0 h0 h)
theorem z_00 : (nI 0 = 0) = True := eq_true nI_0
theorem z_10 : (nI 1 = 0) = False := eq_false (by decide)
theorem z_01 : (nI 0 = 1) = False := eq_false (by decide)
theorem z_11 : (nI 1 = 1) = True := eq_true (by decide)
theorem z_neg1 : ((-1 : Int32) = 0) = False := eq_false (by decide)
def df (a b : Nat) : Nat := if a < b then b - a else a - b
theorem z_subI {a b : Nat} (ha : a < 2 ^ 30) (hb : b < 2 ^ 30) : (nI a - nI b).toInt = (a : Int) - b := pk_sub_toInt ha hb
theorem z_abs {a b : Nat} (ha : a < 2 ^ 30) (hb : b < 2 ^ 30) : (if 0 ≤ nI a - nI b then nI a - nI b else 0 - (nI a - nI b)) = nI (df a b) := by
  have h1 := z_subI ha hb
  unfold df
  by_cases h : a < b
  · rw [if_pos h, if_neg, Int32.zero_sub, Int32.neg_sub, z_sub (Nat.le_of_lt h)]
    intro q
    have q := Int32.le_iff_toInt_le.mp q
    rw [h1, Int32.toInt_zero] at q
    omega
  · rw [if_neg h, if_pos, z_sub (by omega)]
    rw [Int32.le_iff_toInt_le, h1, Int32.toInt_zero]
    omega
theorem z_max0 {a b : Nat} (ha : a < 2 ^ 30) (hb : b < 2 ^ 30) : (if nI 0 < nI a - nI b then nI a - nI b else nI 0) = nI (a - b) := by
  have h1 := z_subI ha hb
  by_cases h : b < a
  · rw [if_pos, z_sub (by omega)]
    rw [Int32.lt_iff_toInt_lt, h1, nI_0, Int32.toInt_zero]
    omega
  · rw [if_neg, Nat.sub_eq_zero_of_le (by omega)]
    intro q
    rw [Int32.lt_iff_toInt_lt, h1, nI_0, Int32.toInt_zero] at q
    omega
theorem sw_ib_i {x : Int32} {n : Nat} (hn : n < 2 ^ 31) : sw_ib x n ↔ (0 ≤ x ∧ x < nI n) := by
  have h : sw_ib x n ↔ 0 ≤ x.toInt ∧ x.toInt < n := vp_in_iff
  rw [h, Int32.le_iff_toInt_le, Int32.lt_iff_toInt_lt, Int32.toInt_zero, nI_toInt hn]
theorem sw_ib_of {x : Int32} {n : Nat} (h : sw_ib x n) (hn : n < 2 ^ 31) : ∃ j : Nat, j < n ∧ x = nI j := vp_in_of h hn
theorem sw_ib_n {j n : Nat} (hj : j < n) (hn : n < 2 ^ 31) : sw_ib (nI j) n := vp_in_nI hj hn
def bn (x : Nat) : Int32 := if x = 4 then (-1000000) else nI x
theorem bn_4 : bn 4 = -1000000 := rfl
theorem bn_n {x : Nat} (h : x ≠ 4) : bn x = nI x := if_neg h
theorem z_nI_NONE {x : Nat} (h : x < 2 ^ 31) : (nI x = -1000000) = False := eq_false (fun q => by
  have := congrArg Int32.toInt q
  rw [nI_toInt h] at this
  have e : (-1000000 : Int32).toInt = -1000000 := by decide
  omega)
theorem z_bn {x : Nat} (h : x < 2 ^ 31) : (bn x = -1000000) = (x = 4) := by
  by_cases h4 : x = 4
  · subst h4; simp [bn_4]
  · rw [bn_n h4, z_nI_NONE h]; simp [h4]
theorem z_bn_b {x b : Nat} (h : x < 2 ^ 31) (hb : b < 4) : (bn x = nI b) = (x = b) := by
  by_cases h4 : x = 4
  · subst h4
    refine propext ⟨fun q => ?_, fun q => by omega⟩
    have h5 : nI b = -1000000 := q.symm.trans bn_4
    rw [z_nI_NONE (by omega)] at h5
    exact h5.elim
  · rw [bn_n h4, z_eq h (by omega)]
theorem z_NONE_0 : ((-1000000 : Int32) < 0) = True := eq_true (by decide)
theorem z_rem2 {a b : Nat} (h0 : 0 < b) (ha : a < 2 ^ 31) (hb : b < 2 ^ 31) : nI a - nI (a / b) * nI b = nI (a % b) := by
  rw [← z_rem h0 ha hb, z_div h0 ha hb]
theorem z_set_s (M : sw_Mem) (k : Nat) (f : Nat → Int32) : sw_set M k f k = f := sw_set_s M k f
theorem z_set_n (M : sw_Mem) {k q : Nat} (f : Nat → Int32) (h : q ≠ k) : sw_set M k f q = M q := sw_set_n M f h
theorem z_cpy_i {f g : Nat → Int32} {sp dp n j : Nat} (h1 : dp ≤ j) (h2 : j < dp + n) : va_cpy f g sp dp n j = f (sp + (j - dp)) := pk_cpy_in h1 h2
theorem z_cpy_o {f g : Nat → Int32} {sp dp n j : Nat} (h : j < dp ∨ dp + n ≤ j) : va_cpy f g sp dp n j = g j := pk_cpy_out h
theorem sw_up_id {M : sw_Mem} {k j : Nat} {x : Int32} (h : M k j = x) : sw_up M k j x = M := by
  funext k' j'
  rw [z_up]
  split
  · rename_i q
    rw [q.1, q.2, h]
  · rfl
theorem z_ib {j n : Nat} (hj : j < 2 ^ 31) (hn : n < 2 ^ 31) : sw_ib (nI j) n = (j < n) := by
  rw [eq_iff_iff, sw_ib_i hn, z_lt hj hn]
  exact ⟨fun q => q.2, fun q => ⟨nI_pos' hj, q⟩⟩
theorem sw_up_up (M : sw_Mem) (k j : Nat) (x y : Int32) : sw_up (sw_up M k j x) k j y = sw_up M k j y := by
  funext k' j'
  by_cases h : k' = k ∧ j' = j
  · rw [z_up, if_pos h, z_up, if_pos h]
  · rw [z_up, if_neg h, z_up, if_neg h, z_up, if_neg h]
