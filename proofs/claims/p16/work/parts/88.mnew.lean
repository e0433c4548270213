/-! ===== a new int[3] ===== -/
def zro (J : zJ) (n : Nat) : zJ := fun c k => if c = n then 0 else J c k
theorem shT_new {n : Nat} (h : tb_N0 ≤ n) : tb_shT n = (100, 3, []) := by
  have hl : tb_shL.length = 184 := by decide +kernel
  unfold tb_shT
  rw [List.getD_eq_getElem?_getD, List.getElem?_eq_none (by rw [hl]; exact h)]
  rfl
theorem cA_new {n : Nat} (h : tb_N0 ≤ n) (hn : n < tb_sc) : tb_cA tb_shT n 3 = true := by
  unfold tb_cA
  rw [shT_new h]
  have e : (n != tb_sc) = true := bne_iff_ne.2 (Nat.ne_of_lt hn)
  rw [e]
  rfl
theorem zok.ro {n : Nat} {J : zJ} (h : zok n J) : zok (n + 1) (zro J n) := ⟨Nat.le_succ_of_le h.1, fun c k => by
  unfold zro
  split
  · decide
  · exact h.2 c k⟩
theorem tz_newa3 {l : Launch} {G : tb_G} {y : tb_Mt} {R : Room} {xt : Option (Nat × (Nat → Int32))} {Z : tb_CT → State → Prop} {k1 k2 n pc m1 m2 : Nat} {J : zJ} {L : List (Option Value)} {S : List Value} (hd : decode y.2.1 pc = .ok (.newarray .int, 2)) (hns : n < tb_sc) (h1 : k1 + 1 = m1) (h2 : k2 + 3 = m2) (hc : m1 ≤ R.cells) (hs : m2 ≤ R.slots) (kk : tz_At l G y R xt Z m1 m2 (n + 1) (zro J n) (pc + 2) L (.ref n :: S)) : tz_At l G y R xt Z k1 k2 n J pc L (zi 3 :: S) := fun ok => by
  refine tb_newa (len := 3) hd wk_arr_int hns rfl (by decide) h1 h2 rfl hc hs ?_
  have e1 : tb_sup tb_shT n (100, 3, []) = tb_shT := by
    funext k
    unfold tb_sup
    split
    · next h => rw [h, shT_new ok.1]
    · rfl
  have e2 : tb_row (zI J) n (fun _ => 0) = zI (zro J n) := by
    funext c k
    unfold tb_row zI zro
    split
    · next h => rfl
    · next h => rfl
  rw [e1, e2]
  exact kk ok.ro
