set_option maxHeartbeats 4000000 in
set_option maxRecDepth 100000 in
theorem c_drawOf {l : Launch} {G : tb_G} (hl : l.stackTraces = false) (n : Nat) (J : zJ) (k : Int) (hr_k : -2147483648 ≤ k ∧ k < 2147483648)  (h0 : 0 < k) : tz_Ok l G M_X2_drawOf 0 0 0 [.ref 141, zi k] n J (zqi (fun z J' => zup J 141 5 (zw (J 141 5 * 1103515245 + 12345)) = J' ∧ (0 ≤ z ∧ z < k) ∧ zand (zushr (zw (J 141 5 * 1103515245 + 12345)) 16) 32767 % k = z)) zN := by
  refine tz_Ok.of hl (by decide +kernel) rfl (tb_c1 rfl) (Nat.le_of_ble_eq_true rfl) ?_
  show tz_At l G M_X2_drawOf (tb_rm 0 0 0) none (tb_ZM G 0 0 (zQ n 0 (zqi (fun z J' => zup J 141 5 (zw (J 141 5 * 1103515245 + 12345)) = J' ∧ (0 ≤ z ∧ z < k) ∧ zand (zushr (zw (J 141 5 * 1103515245 + 12345)) 16) 32767 % k = z))) (zX n 0 zN)) 0 0 n J 0 [some (.ref 141), some (zi k)] []
  refine tz_aload_n (pc := 0) dX2_drawOf_0 rfl rfl ?_
  refine tz_aload_n (pc := 1) dX2_drawOf_1 rfl rfl ?_
  refine tz_fI (pc := 2) (kz := 5) (v := (J 141 5)) dX2_drawOf_2 fl_X2_25 i_141_5 rfl rfl (fun r_2 => ?_)
  refine tz_ldc (pc := 5) (z := 1103515245) dX2_drawOf_5 ct_X2_124 (by decide) ?_
  refine tz_imul (pc := 7) (v := (J 141 5) * 1103515245) dX2_drawOf_7 rfl ?_
  refine tz_sipush (pc := 8) dX2_drawOf_8 (by decide) ?_
  refine tz_iadd (pc := 11) (v := ((J 141 5) * 1103515245) + 12345) dX2_drawOf_11 rfl ?_
  refine tz_tw ?_
  have rw_12 := zw_rg (((J 141 5) * 1103515245) + 12345)
  refine tz_pI (pc := 12) (kz := 5) dX2_drawOf_12 fl_X2_25 i_141_5 rfl rfl (zw_rg _) ?_
  refine tz_iload_n (pc := 15) dX2_drawOf_15 rfl rfl ?_
  refine tz_if_leF (pc := 16) (tgt := 35) (by omega) dX2_drawOf_16 (by decide) (by omega) ?_
  refine tz_aload_n (pc := 19) dX2_drawOf_19 rfl rfl ?_
  refine tz_fI (pc := 20) (kz := 5) (v := (zw (((J 141 5) * 1103515245) + 12345))) dX2_drawOf_20 fl_X2_25 i_141_5 rfl rfl (fun r_20 => ?_)
  refine tz_bipush (pc := 23) dX2_drawOf_23 (by decide) ?_
  refine tz_iushr (pc := 25) (v := zushr (zw (((J 141 5) * 1103515245) + 12345)) 16) dX2_drawOf_25 rfl ?_
  refine tz_sipush (pc := 26) dX2_drawOf_26 (by decide) ?_
  refine tz_iand (pc := 29) (v := zand (zushr (zw (((J 141 5) * 1103515245) + 12345)) 16) 32767) dX2_drawOf_29 rfl ?_
  refine tz_iload_n (pc := 30) dX2_drawOf_30 rfl rfl ?_
  have ha9 := z_and (zushr (zw (J 141 5 * 1103515245 + 12345)) 16) (m := 32767) 15 (by decide) (by decide)
  refine tz_irem (pc := 31) (a := (zand (zushr (zw (((J 141 5) * 1103515245) + 12345)) 16) 32767)) (b := k) (v := ((zand (zushr (zw (((J 141 5) * 1103515245) + 12345)) 16) 32767) % k)) dX2_drawOf_31 (by omega) (by omega) rfl ?_
  refine tz_goto (pc := 32) (tgt := 36) dX2_drawOf_32 (by decide) ?_
  exact tz_iret (pc := 36) (z := ((zand (zushr (zw (((J 141 5) * 1103515245) + 12345)) 16) 32767) % k)) dX2_drawOf_36 rfl (Nat.le_of_ble_eq_true rfl) (Nat.le_of_ble_eq_true rfl) ⟨Nat.le_refl _, Nat.le_add_right _ _⟩ ⟨_, rfl, (by have := Int.emod_nonneg (zand (zushr (zw (J 141 5 * 1103515245 + 12345)) 16) 32767) (show k ≠ 0 by omega); have := Int.emod_lt_of_pos (zand (zushr (zw (J 141 5 * 1103515245 + 12345)) 16) 32767) h0; omega), ⟨rfl, ⟨Int.emod_nonneg _ (by omega), Int.emod_lt_of_pos _ h0⟩, rfl⟩⟩

set_option maxHeartbeats 4000000 in
set_option maxRecDepth 100000 in
theorem c_coupleOf {l : Launch} {G : tb_G} (hl : l.stackTraces = false) (n : Nat) (J : zJ) (s : Int) (t : Int) (hr_s : -2147483648 ≤ s ∧ s < 2147483648) (hr_t : -2147483648 ≤ t ∧ t < 2147483648)  (h0 : 0 ≤ J 141 4 ∧ J 141 4 ≤ 8) : tz_Ok l G M_X2_coupleOf 0 0 0 [.ref 141, zi s, zi t] n J (zqi (fun z J' => J = J' ∧ ((0 ≤ z ∧ z < J 141 4 ∧ (J 143 z = s ∧ J 144 z = t) ∧ ∀ i, 0 ≤ i → i < z → ¬ (J 143 i = s ∧ J 144 i = t)) ∨ (z = -1 ∧ ∀ i, 0 ≤ i → i < J 141 4 → ¬ (J 143 i = s ∧ J 144 i = t))))) zN := by
  refine tz_Ok.of hl (by decide +kernel) rfl (tb_c1 rfl) (Nat.le_of_ble_eq_true rfl) ?_
  show tz_At l G M_X2_coupleOf (tb_rm 0 0 0) none (tb_ZM G 0 0 (zQ n 0 (zqi (fun z J' => J = J' ∧ ((0 ≤ z ∧ z < J 141 4 ∧ (J 143 z = s ∧ J 144 z = t) ∧ ∀ i, 0 ≤ i → i < z → ¬ (J 143 i = s ∧ J 144 i = t)) ∨ (z = -1 ∧ ∀ i, 0 ≤ i → i < J 141 4 → ¬ (J 143 i = s ∧ J 144 i = t)))))) (zX n 0 zN)) 0 0 n J 0 [some (.ref 141), some (zi s), some (zi t), none] []
  refine tz_iconst (pc := 0) dX2_coupleOf_0 ?_
  refine tz_istore_n (pc := 1) (L2 := [_, _, _, _]) dX2_coupleOf_1 rfl (by decide) rfl ?_
  have loop2 : ∀ (f9 : Nat) (i : Int), ((J 141 4 - i).toNat) < f9 → (0 ≤ i ∧ i ≤ J 141 4) → (∀ q, 0 ≤ q → q < i → ¬ (J 143 q = s ∧ J 144 q = t)) → tz_At l G M_X2_coupleOf (tb_rm 0 0 0) none (tb_ZM G 0 0 (zQ n 0 (zqi (fun z J' => J = J' ∧ ((0 ≤ z ∧ z < J 141 4 ∧ (J 143 z = s ∧ J 144 z = t) ∧ ∀ i, 0 ≤ i → i < z → ¬ (J 143 i = s ∧ J 144 i = t)) ∨ (z = -1 ∧ ∀ i, 0 ≤ i → i < J 141 4 → ¬ (J 143 i = s ∧ J 144 i = t)))))) (zX n 0 zN)) 0 0 n J 2 [some (.ref 141), some (zi s), some (zi t), some (zi i)] [] := by
    intro f9
    induction f9 with
    | zero => intro i hm9; exact absurd hm9 (Nat.not_lt_zero _)
    | succ f9 ih2 =>
      intro i hm2 hi hn
      refine tz_iload_n (pc := 2) dX2_coupleOf_2 rfl rfl ?_
      refine tz_aload_n (pc := 3) dX2_coupleOf_3 rfl rfl ?_
      refine tz_fI (pc := 4) (kz := 4) (v := (J 141 4)) dX2_coupleOf_4 fl_X2_21 i_141_4 rfl rfl (fun r_4 => ?_)
      refine tz_icmp_ge (pc := 7) (tgt := 38) dX2_coupleOf_7 (by decide) (by omega) (by omega) (fun h_7 => ?_) (fun h_7 => ?_)
      · refine tz_iconst (pc := 38) dX2_coupleOf_38 ?_
        exact tz_iret (pc := 39) (z := (-1)) dX2_coupleOf_39 rfl (Nat.le_of_ble_eq_true rfl) (Nat.le_of_ble_eq_true rfl) ⟨Nat.le_refl _, Nat.le_add_right _ _⟩ ⟨_, rfl, (by decide), ⟨rfl, by first | exact Or.inl ⟨by omega, by omega, ⟨by omega, by omega⟩, hn⟩ | exact Or.inr ⟨rfl, fun q a b => hn q a (by omega)⟩⟩⟩
      · refine tz_aload_n (pc := 10) dX2_coupleOf_10 rfl rfl ?_
        refine tz_fR (pc := 11) dX2_coupleOf_11 fl_X2_15 r_141_2 ?_
        refine tz_iload_n (pc := 14) dX2_coupleOf_14 rfl rfl ?_
        refine tz_aL (pc := 15) (z := i) (v := (J 143 i)) dX2_coupleOf_15 a_143 rfl (by omega) rfl (fun r_15 => ?_)
        refine tz_iload_n (pc := 16) dX2_coupleOf_16 rfl rfl ?_
        refine tz_icmp_ne (pc := 17) (tgt := 32) dX2_coupleOf_17 (by decide) (by omega) (by omega) (fun h_17 => ?_) (fun h_17 => ?_)
        · refine tz_iinc (pc := 32) (z := i + 1) (L2 := [_, _, _, _]) dX2_coupleOf_32 rfl (by omega) rfl ?_
          refine tz_goto (pc := 35) (tgt := 2) dX2_coupleOf_35 (by decide) ?_
          exact ih2 (i + 1) (by omega) (by omega) (fun q a b => (Decidable.em (q = i)).elim (fun e => by rw [e]; omega) (fun e => hn q a (by omega)))
        · refine tz_aload_n (pc := 20) dX2_coupleOf_20 rfl rfl ?_
          refine tz_fR (pc := 21) dX2_coupleOf_21 fl_X2_18 r_141_3 ?_
          refine tz_iload_n (pc := 24) dX2_coupleOf_24 rfl rfl ?_
          refine tz_aL (pc := 25) (z := i) (v := (J 144 i)) dX2_coupleOf_25 a_144 rfl (by omega) rfl (fun r_25 => ?_)
          refine tz_iload_n (pc := 26) dX2_coupleOf_26 rfl rfl ?_
          refine tz_icmp_ne (pc := 27) (tgt := 32) dX2_coupleOf_27 (by decide) (by omega) (by omega) (fun h_27 => ?_) (fun h_27 => ?_)
          · refine tz_iinc (pc := 32) (z := i + 1) (L2 := [_, _, _, _]) dX2_coupleOf_32 rfl (by omega) rfl ?_
            refine tz_goto (pc := 35) (tgt := 2) dX2_coupleOf_35 (by decide) ?_
            exact ih2 (i + 1) (by omega) (by omega) (fun q a b => (Decidable.em (q = i)).elim (fun e => by rw [e]; omega) (fun e => hn q a (by omega)))
          · refine tz_iload_n (pc := 30) dX2_coupleOf_30 rfl rfl ?_
            exact tz_iret (pc := 31) (z := i) dX2_coupleOf_31 rfl (Nat.le_of_ble_eq_true rfl) (Nat.le_of_ble_eq_true rfl) ⟨Nat.le_refl _, Nat.le_add_right _ _⟩ ⟨_, rfl, (by omega), ⟨rfl, by first | exact Or.inl ⟨by omega, by omega, ⟨by omega, by omega⟩, hn⟩ | exact Or.inr ⟨rfl, fun q a b => hn q a (by omega)⟩⟩⟩
  exact loop2 _ 0 (Nat.lt_succ_self _) (by omega) (fun q a b => by omega)

set_option maxHeartbeats 4000000 in
set_option maxRecDepth 100000 in
theorem c_addCouple {l : Launch} {G : tb_G} (hl : l.stackTraces = false) (n : Nat) (J : zJ) (s : Int) (t : Int) (hr_s : -2147483648 ≤ s ∧ s < 2147483648) (hr_t : -2147483648 ≤ t ∧ t < 2147483648)  (h0 : 0 ≤ J 141 4 ∧ J 141 4 ≤ 8) : tz_Ok l G M_X2_addCouple 1 0 0 [.ref 141, zi s, zi t] n J (zqi (fun z J' => ((∃ i, (0 ≤ i ∧ i < J 141 4) ∧ J 143 i = s ∧ J 144 i = t) ∧ z = 1 ∧ J = J') ∨ ((∀ i, 0 ≤ i → i < J 141 4 → ¬ (J 143 i = s ∧ J 144 i = t)) ∧ ((J 141 4 = 8 ∧ z = 0 ∧ J = J') ∨ (J 141 4 < 8 ∧ z = 1 ∧ zup (zup (zup J 143 (J 141 4) s) 144 (J 141 4) t) 141 4 (J 141 4 + 1) = J'))))) zN := by
  refine tz_Ok.of hl (by decide +kernel) rfl (tb_c1 rfl) (Nat.le_of_ble_eq_true rfl) ?_
  show tz_At l G M_X2_addCouple (tb_rm 1 0 0) none (tb_ZM G 0 0 (zQ n 0 (zqi (fun z J' => ((∃ i, (0 ≤ i ∧ i < J 141 4) ∧ J 143 i = s ∧ J 144 i = t) ∧ z = 1 ∧ J = J') ∨ ((∀ i, 0 ≤ i → i < J 141 4 → ¬ (J 143 i = s ∧ J 144 i = t)) ∧ ((J 141 4 = 8 ∧ z = 0 ∧ J = J') ∨ (J 141 4 < 8 ∧ z = 1 ∧ zup (zup (zup J 143 (J 141 4) s) 144 (J 141 4) t) 141 4 (J 141 4 + 1) = J')))))) (zX n 0 zN)) 0 0 n J 0 [some (.ref 141), some (zi s), some (zi t)] []
  refine tz_aload_n (pc := 0) dX2_addCouple_0 rfl rfl ?_
  refine tz_iload_n (pc := 1) dX2_addCouple_1 rfl rfl ?_
  refine tz_iload_n (pc := 2) dX2_addCouple_2 rfl rfl ?_
  refine tz_cV (pc := 3) (c_coupleOf hl n _ _ _ (by omega) (by omega) h0) vl_X2_93 dX2_addCouple_3 o_141 rfl rfl (Nat.le_of_ble_eq_true rfl) ⟨(Nat.le_of_ble_eq_true rfl), (Nat.le_of_ble_eq_true rfl)⟩ rfl rfl (Nat.le_of_ble_eq_true rfl) (Nat.le_of_ble_eq_true rfl) (fun r9 J_3 hq9 => ?_)
  obtain ⟨z_3, rfl, hz_3, rfl, hz⟩ := hq9
  refine tz_iconst (pc := 6) dX2_addCouple_6 ?_
  refine tz_icmp_eq (pc := 7) (tgt := 12) dX2_addCouple_7 (by decide) (by omega) (by decide) (fun h_7 => ?_) (fun h_7 => ?_)
  · refine tz_aload_n (pc := 12) dX2_addCouple_12 rfl rfl ?_
    refine tz_fI (pc := 13) (kz := 4) (v := (J 141 4)) dX2_addCouple_13 fl_X2_21 i_141_4 rfl rfl (fun r_13 => ?_)
    refine tz_bipush (pc := 16) dX2_addCouple_16 (by decide) ?_
    refine tz_icmp_lt (pc := 18) (tgt := 23) dX2_addCouple_18 (by decide) (by omega) (by decide) (fun h_18 => ?_) (fun h_18 => ?_)
    · refine tz_aload_n (pc := 23) dX2_addCouple_23 rfl rfl ?_
      refine tz_fR (pc := 24) dX2_addCouple_24 fl_X2_15 r_141_2 ?_
      refine tz_aload_n (pc := 27) dX2_addCouple_27 rfl rfl ?_
      refine tz_fI (pc := 28) (kz := 4) (v := (J 141 4)) dX2_addCouple_28 fl_X2_21 i_141_4 rfl rfl (fun r_28 => ?_)
      refine tz_iload_n (pc := 31) dX2_addCouple_31 rfl rfl ?_
      refine tz_aS (pc := 32) (z := (J 141 4)) dX2_addCouple_32 a_143 rfl (by omega) (by omega) ?_
      refine tz_aload_n (pc := 33) dX2_addCouple_33 rfl rfl ?_
      refine tz_fR (pc := 34) dX2_addCouple_34 fl_X2_18 r_141_3 ?_
      refine tz_aload_n (pc := 37) dX2_addCouple_37 rfl rfl ?_
      refine tz_fI (pc := 38) (kz := 4) (v := (J 141 4)) dX2_addCouple_38 fl_X2_21 i_141_4 rfl rfl (fun r_38 => ?_)
      refine tz_iload_n (pc := 41) dX2_addCouple_41 rfl rfl ?_
      refine tz_aS (pc := 42) (z := (J 141 4)) dX2_addCouple_42 a_144 rfl (by omega) (by omega) ?_
      refine tz_aload_n (pc := 43) dX2_addCouple_43 rfl rfl ?_
      refine tz_dup (pc := 44) dX2_addCouple_44 rfl ?_
      refine tz_fI (pc := 45) (kz := 4) (v := (J 141 4)) dX2_addCouple_45 fl_X2_21 i_141_4 rfl rfl (fun r_45 => ?_)
      refine tz_iconst (pc := 48) dX2_addCouple_48 ?_
      refine tz_iadd (pc := 49) (v := (J 141 4) + 1) dX2_addCouple_49 rfl ?_
      refine tz_pI (pc := 50) (kz := 4) dX2_addCouple_50 fl_X2_21 i_141_4 rfl rfl (by omega) ?_
      refine tz_iconst (pc := 53) dX2_addCouple_53 ?_
      exact tz_zret (pc := 54) (z := 1) dX2_addCouple_54 rfl (Or.inr rfl) (Nat.le_of_ble_eq_true rfl) (Nat.le_of_ble_eq_true rfl) ⟨Nat.le_refl _, Nat.le_add_right _ _⟩ ⟨_, rfl, (by decide), (by rcases hz with ⟨z1, z2, z3, -⟩ | ⟨z1, z2⟩ <;> first | (exfalso; omega) | exact Or.inl ⟨⟨_, ⟨z1, z2⟩, z3⟩, rfl, rfl⟩ | exact Or.inr ⟨z2, Or.inl ⟨by omega, rfl, rfl⟩⟩ | exact Or.inr ⟨z2, Or.inr ⟨by omega, rfl, rfl⟩⟩)⟩
    · refine tz_iconst (pc := 21) dX2_addCouple_21 ?_
      exact tz_zret (pc := 22) (z := 0) dX2_addCouple_22 rfl (Or.inl rfl) (Nat.le_of_ble_eq_true rfl) (Nat.le_of_ble_eq_true rfl) ⟨Nat.le_refl _, Nat.le_add_right _ _⟩ ⟨_, rfl, (by decide), (by rcases hz with ⟨z1, z2, z3, -⟩ | ⟨z1, z2⟩ <;> first | (exfalso; omega) | exact Or.inl ⟨⟨_, ⟨z1, z2⟩, z3⟩, rfl, rfl⟩ | exact Or.inr ⟨z2, Or.inl ⟨by omega, rfl, rfl⟩⟩ | exact Or.inr ⟨z2, Or.inr ⟨by omega, rfl, rfl⟩⟩)⟩
  · refine tz_iconst (pc := 10) dX2_addCouple_10 ?_
    exact tz_zret (pc := 11) (z := 1) dX2_addCouple_11 rfl (Or.inr rfl) (Nat.le_of_ble_eq_true rfl) (Nat.le_of_ble_eq_true rfl) ⟨Nat.le_refl _, Nat.le_add_right _ _⟩ ⟨_, rfl, (by decide), (by rcases hz with ⟨z1, z2, z3, -⟩ | ⟨z1, z2⟩ <;> first | (exfalso; omega) | exact Or.inl ⟨⟨_, ⟨z1, z2⟩, z3⟩, rfl, rfl⟩ | exact Or.inr ⟨z2, Or.inl ⟨by omega, rfl, rfl⟩⟩ | exact Or.inr ⟨z2, Or.inr ⟨by omega, rfl, rfl⟩⟩)⟩

