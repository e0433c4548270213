set_option maxHeartbeats 4000000 in
set_option maxRecDepth 100000 in
theorem m_within {l : Launch} {G : tb_G} (hl : l.stackTraces = false) (n : Nat) (J : zJ) (x : Int) (a : Int) (b : Int) (hr_x : -2147483648 ≤ x ∧ x < 2147483648) (hr_a : -2147483648 ≤ a ∧ a < 2147483648) (hr_b : -2147483648 ≤ b ∧ b < 2147483648)   : tz_Ok l G M_X12_within 0 0 0 [zi x, zi a, zi b] n J (zqi (fun z J' => J = J' ∧ ((z = 1 ∧ a ≤ x ∧ x ≤ b) ∨ (z = 0 ∧ ¬ (a ≤ x ∧ x ≤ b))))) zN := by
  refine tz_Ok.of hl (by decide +kernel) rfl (tb_c1 rfl) (Nat.le_of_ble_eq_true rfl) ?_
  show tz_At l G M_X12_within (tb_rm 0 0 0) none (tb_ZM G 0 0 (zQ n 0 (zqi (fun z J' => J = J' ∧ ((z = 1 ∧ a ≤ x ∧ x ≤ b) ∨ (z = 0 ∧ ¬ (a ≤ x ∧ x ≤ b)))))) (zX n 0 zN)) 0 0 n J 0 [some (zi x), some (zi a), some (zi b)] []
  refine tz_iload_n (pc := 0) dX12_within_0 rfl rfl ?_
  refine tz_iload_n (pc := 1) dX12_within_1 rfl rfl ?_
  refine tz_icmp_lt (pc := 2) (tgt := 14) dX12_within_2 (by decide) (by omega) (by omega) (fun h_2 => ?_) (fun h_2 => ?_)
  · refine tz_iconst (pc := 14) dX12_within_14 ?_
    exact tz_zret (pc := 15) (z := 0) dX12_within_15 rfl (Or.inl rfl) (Nat.le_of_ble_eq_true rfl) (Nat.le_of_ble_eq_true rfl) ⟨Nat.le_refl _, Nat.le_add_right _ _⟩ ⟨_, rfl, (by decide), ⟨rfl, by omega⟩⟩
  · refine tz_iload_n (pc := 5) dX12_within_5 rfl rfl ?_
    refine tz_iload_n (pc := 6) dX12_within_6 rfl rfl ?_
    refine tz_icmp_gt (pc := 7) (tgt := 14) dX12_within_7 (by decide) (by omega) (by omega) (fun h_7 => ?_) (fun h_7 => ?_)
    · refine tz_iconst (pc := 14) dX12_within_14 ?_
      exact tz_zret (pc := 15) (z := 0) dX12_within_15 rfl (Or.inl rfl) (Nat.le_of_ble_eq_true rfl) (Nat.le_of_ble_eq_true rfl) ⟨Nat.le_refl _, Nat.le_add_right _ _⟩ ⟨_, rfl, (by decide), ⟨rfl, by omega⟩⟩
    · refine tz_iconst (pc := 10) dX12_within_10 ?_
      refine tz_goto (pc := 11) (tgt := 15) dX12_within_11 (by decide) ?_
      exact tz_zret (pc := 15) (z := 1) dX12_within_15 rfl (Or.inr rfl) (Nat.le_of_ble_eq_true rfl) (Nat.le_of_ble_eq_true rfl) ⟨Nat.le_refl _, Nat.le_add_right _ _⟩ ⟨_, rfl, (by decide), ⟨rfl, by omega⟩⟩

set_option maxHeartbeats 4000000 in
set_option maxRecDepth 100000 in
theorem m_isTerm {l : Launch} {G : tb_G} (hl : l.stackTraces = false) (n : Nat) (J : zJ) (t : Int) (hr_t : -2147483648 ≤ t ∧ t < 2147483648)  (h0 : 0 ≤ J 165 0) : tz_Ok l G M_X12_isTerm 1 0 0 [.ref 164, zi t] n J (zqi (fun z J' => J = J' ∧ ((z = 1 ∧ 0 ≤ t ∧ t < J 165 0) ∨ (z = 0 ∧ ¬ (0 ≤ t ∧ t < J 165 0))))) zN := by
  refine tz_Ok.of hl (by decide +kernel) rfl (tb_c1 rfl) (Nat.le_of_ble_eq_true rfl) ?_
  show tz_At l G M_X12_isTerm (tb_rm 1 0 0) none (tb_ZM G 0 0 (zQ n 0 (zqi (fun z J' => J = J' ∧ ((z = 1 ∧ 0 ≤ t ∧ t < J 165 0) ∨ (z = 0 ∧ ¬ (0 ≤ t ∧ t < J 165 0)))))) (zX n 0 zN)) 0 0 n J 0 [some (.ref 164), some (zi t)] []
  refine tz_iload_n (pc := 0) dX12_isTerm_0 rfl rfl ?_
  refine tz_iconst (pc := 1) dX12_isTerm_1 ?_
  refine tz_aload_n (pc := 2) dX12_isTerm_2 rfl rfl ?_
  refine tz_fR (pc := 3) dX12_isTerm_3 fl_X12_9 r_164_0 ?_
  refine tz_iconst (pc := 6) dX12_isTerm_6 ?_
  refine tz_aL (pc := 7) (z := 0) (v := (J 165 0)) dX12_isTerm_7 a_165 rfl (by decide) rfl (fun r_7 => ?_)
  refine tz_iconst (pc := 8) dX12_isTerm_8 ?_
  refine tz_isub (pc := 9) (v := (J 165 0) - 1) dX12_isTerm_9 rfl ?_
  refine tz_cS (pc := 10) (m_within hl n _ _ _ _ (by omega) (by decide) (by omega)) sl_X12_283 dX12_isTerm_10 rfl rfl (Nat.le_of_ble_eq_true rfl) ⟨(Nat.le_of_ble_eq_true rfl), (Nat.le_of_ble_eq_true rfl)⟩ rfl rfl (Nat.le_of_ble_eq_true rfl) (Nat.le_of_ble_eq_true rfl) (fun r9 J_10 hq9 => ?_)
  obtain ⟨z_10, rfl, hz_10, rfl, hw⟩ := hq9
  exact tz_zret (pc := 13) (z := z_10) dX12_isTerm_13 rfl (by omega) (Nat.le_of_ble_eq_true rfl) (Nat.le_of_ble_eq_true rfl) ⟨Nat.le_refl _, Nat.le_add_right _ _⟩ ⟨_, rfl, (by omega), ⟨rfl, by omega⟩⟩

set_option maxHeartbeats 4000000 in
set_option maxRecDepth 100000 in
theorem m_isSym {l : Launch} {G : tb_G} (hl : l.stackTraces = false) (n : Nat) (J : zJ) (t : Int) (hr_t : -2147483648 ≤ t ∧ t < 2147483648)  (h0 : 0 ≤ J 164 9) : tz_Ok l G M_X12_isSymbol 1 0 0 [.ref 164, zi t] n J (zqi (fun z J' => J = J' ∧ ((z = 1 ∧ 0 ≤ t ∧ t < J 164 9) ∨ (z = 0 ∧ ¬ (0 ≤ t ∧ t < J 164 9))))) zN := by
  refine tz_Ok.of hl (by decide +kernel) rfl (tb_c1 rfl) (Nat.le_of_ble_eq_true rfl) ?_
  show tz_At l G M_X12_isSymbol (tb_rm 1 0 0) none (tb_ZM G 0 0 (zQ n 0 (zqi (fun z J' => J = J' ∧ ((z = 1 ∧ 0 ≤ t ∧ t < J 164 9) ∨ (z = 0 ∧ ¬ (0 ≤ t ∧ t < J 164 9)))))) (zX n 0 zN)) 0 0 n J 0 [some (.ref 164), some (zi t)] []
  refine tz_iload_n (pc := 0) dX12_isSymbol_0 rfl rfl ?_
  refine tz_iconst (pc := 1) dX12_isSymbol_1 ?_
  refine tz_aload_n (pc := 2) dX12_isSymbol_2 rfl rfl ?_
  refine tz_fI (pc := 3) (kz := 9) (v := (J 164 9)) dX12_isSymbol_3 fl_X12_347 i_164_9 rfl rfl (fun r_3 => ?_)
  refine tz_iconst (pc := 6) dX12_isSymbol_6 ?_
  refine tz_isub (pc := 7) (v := (J 164 9) - 1) dX12_isSymbol_7 rfl ?_
  refine tz_cS (pc := 8) (m_within hl n _ _ _ _ (by omega) (by decide) (by omega)) sl_X12_283 dX12_isSymbol_8 rfl rfl (Nat.le_of_ble_eq_true rfl) ⟨(Nat.le_of_ble_eq_true rfl), (Nat.le_of_ble_eq_true rfl)⟩ rfl rfl (Nat.le_of_ble_eq_true rfl) (Nat.le_of_ble_eq_true rfl) (fun r9 J_8 hq9 => ?_)
  obtain ⟨z_8, rfl, hz_8, rfl, hw⟩ := hq9
  exact tz_zret (pc := 11) (z := z_8) dX12_isSymbol_11 rfl (by omega) (Nat.le_of_ble_eq_true rfl) (Nat.le_of_ble_eq_true rfl) ⟨Nat.le_refl _, Nat.le_add_right _ _⟩ ⟨_, rfl, (by omega), ⟨rfl, by omega⟩⟩

set_option maxHeartbeats 4000000 in
set_option maxRecDepth 100000 in
theorem m_right {l : Launch} {G : tb_G} (hl : l.stackTraces = false) (n : Nat) (J : zJ) (x : Int) (y : Int) (hr_x : -2147483648 ≤ x ∧ x < 2147483648) (hr_y : -2147483648 ≤ y ∧ y < 2147483648)  (hy : ¬ y = 0) : tz_Ok l G M_X12_right 0 0 0 [.ref 164, zi x, zi y] n J (zqi (fun z J' => (zOf (zbut [164]) J' J ∧ ∀ k, ¬ k = 8 → J' 164 k = J 164 k) ∧ (z = 0 ∨ z = 1) ∧ (z = 1 → J = J' ∧ J 164 8 = 0 ∧ (¬ x = 0 ∨ y = 0)))) zN := by
  refine tz_Ok.of hl (by decide +kernel) rfl (tb_c1 rfl) (Nat.le_of_ble_eq_true rfl) ?_
  show tz_At l G M_X12_right (tb_rm 0 0 0) none (tb_ZM G 0 0 (zQ n 0 (zqi (fun z J' => (zOf (zbut [164]) J' J ∧ ∀ k, ¬ k = 8 → J' 164 k = J 164 k) ∧ (z = 0 ∨ z = 1) ∧ (z = 1 → J = J' ∧ J 164 8 = 0 ∧ (¬ x = 0 ∨ y = 0))))) (zX n 0 zN)) 0 0 n J 0 [some (.ref 164), some (zi x), some (zi y)] []
  refine tz_aload_n (pc := 0) dX12_right_0 rfl rfl ?_
  refine tz_fI (pc := 1) (kz := 8) (v := (J 164 8)) dX12_right_1 fl_X12_68 i_164_8 rfl rfl (fun r_1 => ?_)
  refine tz_if_ne (pc := 4) (tgt := 16) dX12_right_4 (by decide) (by omega) (fun h_4 => ?_) (fun h_4 => ?_)
  · refine tz_aload_n (pc := 16) dX12_right_16 rfl rfl ?_
    refine tz_fI (pc := 17) (kz := 8) (v := (J 164 8)) dX12_right_17 fl_X12_68 i_164_8 rfl rfl (fun r_17 => ?_)
    refine tz_if_ne (pc := 20) (tgt := 27) dX12_right_20 (by decide) (by omega) (fun h_20 => ?_) (fun h_20 => ?_)
    · refine tz_iconst (pc := 27) dX12_right_27 ?_
      exact tz_zret (pc := 28) (z := 0) dX12_right_28 rfl (Or.inl rfl) (Nat.le_of_ble_eq_true rfl) (Nat.le_of_ble_eq_true rfl) ⟨Nat.le_refl _, Nat.le_add_right _ _⟩ ⟨_, rfl, (by decide), ⟨⟨zOf.rf, fun _ _ => rfl⟩, by omega, fun q9 => ⟨rfl, by omega, by omega⟩⟩⟩
    · refine tz_iconst (pc := 23) dX12_right_23 ?_
      refine tz_goto (pc := 24) (tgt := 28) dX12_right_24 (by decide) ?_
      exact tz_zret (pc := 28) (z := 1) dX12_right_28 rfl (Or.inr rfl) (Nat.le_of_ble_eq_true rfl) (Nat.le_of_ble_eq_true rfl) ⟨Nat.le_refl _, Nat.le_add_right _ _⟩ ⟨_, rfl, (by decide), ⟨⟨zOf.rf, fun _ _ => rfl⟩, by omega, fun q9 => ⟨rfl, by omega, by omega⟩⟩⟩
  · refine tz_iload_n (pc := 7) dX12_right_7 rfl rfl ?_
    refine tz_if_ne (pc := 8) (tgt := 16) dX12_right_8 (by decide) (by omega) (fun h_8 => ?_) (fun h_8 => ?_)
    · refine tz_aload_n (pc := 16) dX12_right_16 rfl rfl ?_
      refine tz_fI (pc := 17) (kz := 8) (v := (J 164 8)) dX12_right_17 fl_X12_68 i_164_8 rfl rfl (fun r_17 => ?_)
      refine tz_if_ne (pc := 20) (tgt := 27) dX12_right_20 (by decide) (by omega) (fun h_20 => ?_) (fun h_20 => ?_)
      · refine tz_iconst (pc := 27) dX12_right_27 ?_
        exact tz_zret (pc := 28) (z := 0) dX12_right_28 rfl (Or.inl rfl) (Nat.le_of_ble_eq_true rfl) (Nat.le_of_ble_eq_true rfl) ⟨Nat.le_refl _, Nat.le_add_right _ _⟩ ⟨_, rfl, (by decide), ⟨⟨zOf.rf, fun _ _ => rfl⟩, by omega, fun q9 => ⟨rfl, by omega, by omega⟩⟩⟩
      · refine tz_iconst (pc := 23) dX12_right_23 ?_
        refine tz_goto (pc := 24) (tgt := 28) dX12_right_24 (by decide) ?_
        exact tz_zret (pc := 28) (z := 1) dX12_right_28 rfl (Or.inr rfl) (Nat.le_of_ble_eq_true rfl) (Nat.le_of_ble_eq_true rfl) ⟨Nat.le_refl _, Nat.le_add_right _ _⟩ ⟨_, rfl, (by decide), ⟨⟨zOf.rf, fun _ _ => rfl⟩, by omega, fun q9 => ⟨rfl, by omega, by omega⟩⟩⟩
    · refine tz_aload_n (pc := 11) dX12_right_11 rfl rfl ?_
      refine tz_iload_n (pc := 12) dX12_right_12 rfl rfl ?_
      refine tz_pI (pc := 13) (kz := 8) dX12_right_13 fl_X12_68 i_164_8 rfl rfl (by omega) ?_
      refine tz_aload_n (pc := 16) dX12_right_16 rfl rfl ?_
      refine tz_fI (pc := 17) (kz := 8) (v := y) dX12_right_17 fl_X12_68 i_164_8 rfl rfl (fun r_17 => ?_)
      refine tz_if_ne (pc := 20) (tgt := 27) dX12_right_20 (by decide) (by omega) (fun h_20 => ?_) (fun h_20 => ?_)
      · refine tz_iconst (pc := 27) dX12_right_27 ?_
        exact tz_zret (pc := 28) (z := 0) dX12_right_28 rfl (Or.inl rfl) (Nat.le_of_ble_eq_true rfl) (Nat.le_of_ble_eq_true rfl) ⟨Nat.le_refl _, Nat.le_add_right _ _⟩ ⟨_, rfl, (by decide), ⟨⟨zOf.up rfl zOf.rf, fun k hk => zup_ne hk⟩, by omega, fun q9 => by omega⟩⟩
      · refine tz_iconst (pc := 23) dX12_right_23 ?_
        refine tz_goto (pc := 24) (tgt := 28) dX12_right_24 (by decide) ?_
        exact tz_zret (pc := 28) (z := 1) dX12_right_28 rfl (Or.inr rfl) (Nat.le_of_ble_eq_true rfl) (Nat.le_of_ble_eq_true rfl) ⟨Nat.le_refl _, Nat.le_add_right _ _⟩ ⟨_, rfl, (by decide), ⟨⟨zOf.up rfl zOf.rf, fun k hk => zup_ne hk⟩, by omega, fun q9 => by omega⟩⟩

/-! ===== a table is copied ===== -/
def fcy (f : Int → Int) (a b m : Int) : Int → Int := fun k => if b ≤ k ∧ k < b + m then f (a + (k - b)) else f k
theorem fcy_0 {f : Int → Int} {a b : Int} : f = fcy f a b 0 := by
  funext k
  unfold fcy
  rw [if_neg (by omega)]
theorem fcy_s {f g h : Int → Int} {a b i m : Int} (e : g = fcy f a b i) (hi : 0 ≤ i ∧ i < m) (hd : a + m ≤ b ∨ b + m ≤ a) (hh : ∀ k, h k = if k = b + i then g (a + i) else g k) : h = fcy f a b (i + 1) := by
  funext k
  rw [hh k, e]
  have e1 : fcy f a b i (a + i) = f (a + i) := by unfold fcy; rw [if_neg (by omega)]
  rw [e1]
  unfold fcy
  by_cases hk : k = b + i
  · rw [if_pos hk, if_pos (by omega), show a + (k - b) = a + i by omega]
  · rw [if_neg hk]
    by_cases h2 : b ≤ k ∧ k < b + i
    · rw [if_pos h2, if_pos (by omega)]
    · rw [if_neg h2, if_neg (by omega)]
set_option maxHeartbeats 4000000 in
set_option maxRecDepth 100000 in
theorem m_moves {l : Launch} {G : tb_G} (hl : l.stackTraces = false) (n : Nat) (J : zJ) (a : Int) (b : Int) (hr_a : -2147483648 ≤ a ∧ a < 2147483648) (hr_b : -2147483648 ≤ b ∧ b < 2147483648)  (h0 : (0 ≤ a ∧ a ≤ 800) ∧ 0 ≤ b ∧ b ≤ 800) (hd : a + 400 ≤ b ∨ b + 400 ≤ a) : tz_Ok l G M_X12_movesTerms 0 0 0 [.ref 164, zi a, zi b] n J (zqv (fun J' => zOf (zbut [166, 167, 168]) J' J ∧ (J' 166 = fcy (J 166) a b (400) ∧ J' 168 = fcy (J 168) a b (400) ∧ J' 167 = fcy (J 167) (3 * a) (3 * b) (1200)))) zN := by
  refine tz_Ok.of hl (by decide +kernel) rfl (tb_c1 rfl) (Nat.le_of_ble_eq_true rfl) ?_
  show tz_At l G M_X12_movesTerms (tb_rm 0 0 0) none (tb_ZM G 0 0 (zQ n 0 (zqv (fun J' => zOf (zbut [166, 167, 168]) J' J ∧ (J' 166 = fcy (J 166) a b (400) ∧ J' 168 = fcy (J 168) a b (400) ∧ J' 167 = fcy (J 167) (3 * a) (3 * b) (1200))))) (zX n 0 zN)) 0 0 n J 0 [some (.ref 164), some (zi a), some (zi b), none, none] []
  refine tz_iconst (pc := 0) dX12_movesTerms_0 ?_
  refine tz_istore_n (pc := 1) (L2 := [_, _, _, _, _]) dX12_movesTerms_1 rfl (by decide) rfl ?_
  have loop2 : ∀ (f9 : Nat) (i : Int) (d4 : Option Value) (J1 : zJ), ((400 - i).toNat) < f9 → (0 ≤ i ∧ i ≤ 400) → (zOf (zbut [166, 167, 168]) J1 J) → (J1 166 = fcy (J 166) a b (i) ∧ J1 168 = fcy (J 168) a b (i) ∧ J1 167 = fcy (J 167) (3 * a) (3 * b) (3 * i)) → tz_At l G M_X12_movesTerms (tb_rm 0 0 0) none (tb_ZM G 0 0 (zQ n 0 (zqv (fun J' => zOf (zbut [166, 167, 168]) J' J ∧ (J' 166 = fcy (J 166) a b (400) ∧ J' 168 = fcy (J 168) a b (400) ∧ J' 167 = fcy (J 167) (3 * a) (3 * b) (1200))))) (zX n 0 zN)) 0 0 n J1 2 [some (.ref 164), some (zi a), some (zi b), some (zi i), d4] [] := by
    intro f9
    induction f9 with
    | zero => intro i d4 J1 hm9; exact absurd hm9 (Nat.not_lt_zero _)
    | succ f9 ih2 =>
      intro i d4 J1 hm2 hi f1 e1
      refine tz_iload_n (pc := 2) dX12_movesTerms_2 rfl rfl ?_
      refine tz_sipush (pc := 3) dX12_movesTerms_3 (by decide) ?_
      refine tz_icmp_ge (pc := 6) (tgt := 88) dX12_movesTerms_6 (by decide) (by omega) (by decide) (fun h_6 => ?_) (fun h_6 => ?_)
      · exact tz_vret (pc := 88) dX12_movesTerms_88 rfl (Nat.le_of_ble_eq_true rfl) (Nat.le_of_ble_eq_true rfl) ⟨Nat.le_refl _, Nat.le_add_right _ _⟩ ⟨rfl, (by have ei : i = 400 := (by omega); subst ei; exact ⟨f1, e1⟩)⟩
      · refine tz_aload_n (pc := 9) dX12_movesTerms_9 rfl rfl ?_
        refine tz_fR (pc := 10) dX12_movesTerms_10 fl_X12_13 r_164_1 ?_
        refine tz_iload_n (pc := 13) dX12_movesTerms_13 rfl rfl ?_
        refine tz_iload_n (pc := 14) dX12_movesTerms_14 rfl rfl ?_
        refine tz_iadd (pc := 15) (v := b + i) dX12_movesTerms_15 rfl ?_
        refine tz_aload_n (pc := 16) dX12_movesTerms_16 rfl rfl ?_
        refine tz_fR (pc := 17) dX12_movesTerms_17 fl_X12_13 r_164_1 ?_
        refine tz_iload_n (pc := 20) dX12_movesTerms_20 rfl rfl ?_
        refine tz_iload_n (pc := 21) dX12_movesTerms_21 rfl rfl ?_
        refine tz_iadd (pc := 22) (v := a + i) dX12_movesTerms_22 rfl ?_
        refine tz_aL (pc := 23) (z := (a + i)) (v := (J1 166 (a + i))) dX12_movesTerms_23 a_166 rfl (by omega) rfl (fun r_23 => ?_)
        refine tz_aS (pc := 24) (z := (b + i)) dX12_movesTerms_24 a_166 rfl (by omega) (by omega) ?_
        refine tz_aload_n (pc := 25) dX12_movesTerms_25 rfl rfl ?_
        refine tz_fR (pc := 26) dX12_movesTerms_26 fl_X12_19 r_164_3 ?_
        refine tz_iload_n (pc := 29) dX12_movesTerms_29 rfl rfl ?_
        refine tz_iload_n (pc := 30) dX12_movesTerms_30 rfl rfl ?_
        refine tz_iadd (pc := 31) (v := b + i) dX12_movesTerms_31 rfl ?_
        refine tz_aload_n (pc := 32) dX12_movesTerms_32 rfl rfl ?_
        refine tz_fR (pc := 33) dX12_movesTerms_33 fl_X12_19 r_164_3 ?_
        refine tz_iload_n (pc := 36) dX12_movesTerms_36 rfl rfl ?_
        refine tz_iload_n (pc := 37) dX12_movesTerms_37 rfl rfl ?_
        refine tz_iadd (pc := 38) (v := a + i) dX12_movesTerms_38 rfl ?_
        refine tz_aL (pc := 39) (z := (a + i)) (v := (J1 168 (a + i))) dX12_movesTerms_39 a_168 rfl (by omega) rfl (fun r_39 => ?_)
        refine tz_aS (pc := 40) (z := (b + i)) dX12_movesTerms_40 a_168 rfl (by omega) (by omega) ?_
        refine tz_iconst (pc := 41) dX12_movesTerms_41 ?_
        refine tz_istore (pc := 42) (L2 := [_, _, _, _, _]) dX12_movesTerms_42 (by decide) rfl ?_
        have loop44 : ∀ (f9 : Nat) (j : Int) (J2 : zJ), ((3 - j).toNat) < f9 → (0 ≤ j ∧ j ≤ 3) → (zOf (zbut [166, 167, 168]) J2 J) → (J2 166 = fcy (J 166) a b (i + 1) ∧ J2 168 = fcy (J 168) a b (i + 1) ∧ J2 167 = fcy (J 167) (3 * a) (3 * b) (3 * i + j)) → tz_At l G M_X12_movesTerms (tb_rm 0 0 0) none (tb_ZM G 0 0 (zQ n 0 (zqv (fun J' => zOf (zbut [166, 167, 168]) J' J ∧ (J' 166 = fcy (J 166) a b (400) ∧ J' 168 = fcy (J 168) a b (400) ∧ J' 167 = fcy (J 167) (3 * a) (3 * b) (1200))))) (zX n 0 zN)) 0 0 n J2 44 [some (.ref 164), some (zi a), some (zi b), some (zi i), some (zi j)] [] := by
          intro f9
          induction f9 with
          | zero => intro j J2 hm9; exact absurd hm9 (Nat.not_lt_zero _)
          | succ f9 ih44 =>
            intro j J2 hm44 hj f2 e2
            refine tz_iload (pc := 44) dX12_movesTerms_44 rfl ?_
            refine tz_iconst (pc := 46) dX12_movesTerms_46 ?_
            refine tz_icmp_ge (pc := 47) (tgt := 82) dX12_movesTerms_47 (by decide) (by omega) (by decide) (fun h_47 => ?_) (fun h_47 => ?_)
            · refine tz_iinc (pc := 82) (z := i + 1) (L2 := [_, _, _, _, _]) dX12_movesTerms_82 rfl (by omega) rfl ?_
              refine tz_goto (pc := 85) (tgt := 2) dX12_movesTerms_85 (by decide) ?_
              have ej : j = 3 := by omega
              subst ej
              exact ih2 (i + 1) _ _ (by omega) (by omega) f2 ⟨e2.1, e2.2.1, (show 3 * (i + 1) = 3 * i + 3 by omega) ▸ e2.2.2⟩
            · refine tz_aload_n (pc := 50) dX12_movesTerms_50 rfl rfl ?_
              refine tz_fR (pc := 51) dX12_movesTerms_51 fl_X12_16 r_164_2 ?_
              refine tz_iconst (pc := 54) dX12_movesTerms_54 ?_
              refine tz_iload_n (pc := 55) dX12_movesTerms_55 rfl rfl ?_
              refine tz_iload_n (pc := 56) dX12_movesTerms_56 rfl rfl ?_
              refine tz_iadd (pc := 57) (v := b + i) dX12_movesTerms_57 rfl ?_
              refine tz_imul (pc := 58) (v := 3 * (b + i)) dX12_movesTerms_58 rfl ?_
              refine tz_iload (pc := 59) dX12_movesTerms_59 rfl ?_
              refine tz_iadd (pc := 61) (v := (3 * (b + i)) + j) dX12_movesTerms_61 rfl ?_
              refine tz_aload_n (pc := 62) dX12_movesTerms_62 rfl rfl ?_
              refine tz_fR (pc := 63) dX12_movesTerms_63 fl_X12_16 r_164_2 ?_
              refine tz_iconst (pc := 66) dX12_movesTerms_66 ?_
              refine tz_iload_n (pc := 67) dX12_movesTerms_67 rfl rfl ?_
              refine tz_iload_n (pc := 68) dX12_movesTerms_68 rfl rfl ?_
              refine tz_iadd (pc := 69) (v := a + i) dX12_movesTerms_69 rfl ?_
              refine tz_imul (pc := 70) (v := 3 * (a + i)) dX12_movesTerms_70 rfl ?_
              refine tz_iload (pc := 71) dX12_movesTerms_71 rfl ?_
              refine tz_iadd (pc := 73) (v := (3 * (a + i)) + j) dX12_movesTerms_73 rfl ?_
              refine tz_aL (pc := 74) (z := ((3 * (a + i)) + j)) (v := (J2 167 ((3 * (a + i)) + j))) dX12_movesTerms_74 a_167 rfl (by omega) rfl (fun r_74 => ?_)
              refine tz_aS (pc := 75) (z := ((3 * (b + i)) + j)) dX12_movesTerms_75 a_167 rfl (by omega) (by omega) ?_
              refine tz_iinc (pc := 76) (z := j + 1) (L2 := [_, _, _, _, _]) dX12_movesTerms_76 rfl (by omega) rfl ?_
              refine tz_goto (pc := 79) (tgt := 44) dX12_movesTerms_79 (by decide) ?_
              exact ih44 (j + 1) _ (by omega) (by omega) (zOf.up rfl f2) ⟨e2.1, e2.2.1, (show 3 * i + j + 1 = 3 * i + (j + 1) by omega) ▸ fcy_s (m := 1200) e2.2.2 (by omega) (by omega) (fun k => by rw [show 3 * b + (3 * i + j) = 3 * (b + i) + j by omega, show 3 * a + (3 * i + j) = 3 * (a + i) + j by omega]; rfl)⟩
        exact loop44 _ 0 _ (Nat.lt_succ_self _) (by omega) (zOf.up rfl (zOf.up rfl f1)) ⟨fcy_s (m := 400) e1.1 (by omega) hd (fun _ => rfl), fcy_s (m := 400) e1.2.1 (by omega) hd (fun _ => rfl), by rw [Int.add_zero]; exact e1.2.2⟩
  exact loop2 _ 0 none _ (Nat.lt_succ_self _) (by omega) zOf.rf ⟨fcy_0, fcy_0, fcy_0⟩

