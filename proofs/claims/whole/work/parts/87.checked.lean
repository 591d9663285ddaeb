theorem sw_klaw : sw_okC sw_law = true := by
  show (sw_c225).all (sw_okE 13 cL_law (some .boolean)) = true
  unfold sw_c225
  simp only [List.all_append, sw_kl0, sw_kl1, sw_kl2, sw_kl3, sw_kl4, sw_kl5, sw_kl6, sw_kl7, sw_kl8, sw_kl9, sw_kl10, sw_kl11, sw_kl12, sw_kl13, sw_kl14, sw_kl15, sw_kl16, Bool.and_self]
theorem sw_kc : ∀ (k : Nat) (e : sw_Mt), sw_mt[k]? = some e → sw_okC e = true := by
  have h : sw_mt.all sw_okC = true := by
    unfold sw_mt
    simp only [List.all_append, List.all_cons, List.all_nil, sw_klaw, sw_kc0, sw_kc1, sw_kc2, sw_kc3, sw_kc4, sw_kc5, sw_kc6, sw_kc7, sw_kc8, sw_kc9, sw_kc10, sw_kc11, Bool.and_self]
  intro k e he
  exact List.all_eq_true.mp h e (List.mem_of_getElem? he)
def sw_mtA : List sw_Mt := sw_mt0 ++ (sw_mt1 ++ (sw_mt2 ++ (sw_mt3 ++ (sw_mt4 ++ (sw_mt5 ++ (sw_mt6 ++ (sw_mt7 ++ (sw_mt8 ++ (sw_mt9 ++ (sw_mt10 ++ (sw_mt11)))))))))))
theorem sw_mt_A : sw_mt = sw_mtA ++ [sw_law] := by
  unfold sw_mt sw_mtA
  simp only [List.append_assoc]
theorem sw_mtA_len : sw_mtA.length = 225 := by decide +kernel
theorem sw_kw : ∀ (k : Nat) (e : sw_Mt), k < 225 → sw_mt[k]? = some e → sw_okW e = true := by
  have h : sw_mtA.all sw_okW = true := by
    unfold sw_mtA
    simp only [List.all_append, sw_kw0, sw_kw1, sw_kw2, sw_kw3, sw_kw4, sw_kw5, sw_kw6, sw_kw7, sw_kw8, sw_kw9, sw_kw10, sw_kw11, Bool.and_self]
  intro k e hk he
  rw [sw_mt_A, List.getElem?_append_left (by rw [sw_mtA_len]; exact hk)] at he
  exact List.all_eq_true.mp h e (List.mem_of_getElem? he)
