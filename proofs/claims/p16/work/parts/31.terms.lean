set_option maxHeartbeats 4000000 in
set_option maxRecDepth 100000 in
theorem c_syHas {l : Launch} {G : tb_G} (hl : l.stackTraces = false) (n : Nat) (J : zJ) (x : Int) (hr_x : -2147483648 ≤ x ∧ x < 2147483648)   : tz_Ok l G M_X8_has 0 0 0 [.ref 1, zi x] n J (zqi (fun z J' => J = J' ∧ (if 0 ≤ x ∧ x < J 1 3 then 1 else 0) = z)) zN := by
  refine tz_Ok.of hl (by decide +kernel) rfl (tb_c1 rfl) (Nat.le_of_ble_eq_true rfl) ?_
  show tz_At l G M_X8_has (tb_rm 0 0 0) none (tb_ZM G 0 0 (zQ n 0 (zqi (fun z J' => J = J' ∧ (if 0 ≤ x ∧ x < J 1 3 then 1 else 0) = z))) (zX n 0 zN)) 0 0 n J 0 [some (.ref 1), some (zi x)] []
  refine tz_iload_n (pc := 0) dX8_has_0 rfl rfl ?_
  refine tz_if_lt (pc := 1) (tgt := 16) dX8_has_1 (by decide) (by omega) (fun h_1 => ?_) (fun h_1 => ?_)
  · refine tz_iconst (pc := 16) dX8_has_16 ?_
    exact tz_zret (pc := 17) (z := 0) dX8_has_17 rfl (Or.inl rfl) (Nat.le_of_ble_eq_true rfl) (Nat.le_of_ble_eq_true rfl) ⟨Nat.le_refl _, Nat.le_add_right _ _⟩ ⟨_, rfl, (by decide), ⟨rfl, by split <;> omega⟩⟩
  · refine tz_iload_n (pc := 4) dX8_has_4 rfl rfl ?_
    refine tz_aload_n (pc := 5) dX8_has_5 rfl rfl ?_
    refine tz_fI (pc := 6) (kz := 3) (v := (J 1 3)) dX8_has_6 fl_X8_21 i_1_3 rfl rfl (fun r_6 => ?_)
    refine tz_icmp_ge (pc := 9) (tgt := 16) dX8_has_9 (by decide) (by omega) (by omega) (fun h_9 => ?_) (fun h_9 => ?_)
    · refine tz_iconst (pc := 16) dX8_has_16 ?_
      exact tz_zret (pc := 17) (z := 0) dX8_has_17 rfl (Or.inl rfl) (Nat.le_of_ble_eq_true rfl) (Nat.le_of_ble_eq_true rfl) ⟨Nat.le_refl _, Nat.le_add_right _ _⟩ ⟨_, rfl, (by decide), ⟨rfl, by split <;> omega⟩⟩
    · refine tz_iconst (pc := 12) dX8_has_12 ?_
      refine tz_goto (pc := 13) (tgt := 17) dX8_has_13 (by decide) ?_
      exact tz_zret (pc := 17) (z := 1) dX8_has_17 rfl (Or.inr rfl) (Nat.le_of_ble_eq_true rfl) (Nat.le_of_ble_eq_true rfl) ⟨Nat.le_refl _, Nat.le_add_right _ _⟩ ⟨_, rfl, (by decide), ⟨rfl, by split <;> omega⟩⟩

set_option maxHeartbeats 4000000 in
set_option maxRecDepth 100000 in
theorem c_has {l : Launch} {G : tb_G} (hl : l.stackTraces = false) (n : Nat) (J : zJ) (x : Int) (hr_x : -2147483648 ≤ x ∧ x < 2147483648)   : tz_Ok l G M_X9_has 0 0 0 [.ref 6, zi x] n J (zqi (fun z J' => J = J' ∧ (if 0 ≤ x ∧ x < J 6 12 then 1 else 0) = z)) zN := by
  refine tz_Ok.of hl (by decide +kernel) rfl (tb_c1 rfl) (Nat.le_of_ble_eq_true rfl) ?_
  show tz_At l G M_X9_has (tb_rm 0 0 0) none (tb_ZM G 0 0 (zQ n 0 (zqi (fun z J' => J = J' ∧ (if 0 ≤ x ∧ x < J 6 12 then 1 else 0) = z))) (zX n 0 zN)) 0 0 n J 0 [some (.ref 6), some (zi x)] []
  refine tz_iload_n (pc := 0) dX9_has_0 rfl rfl ?_
  refine tz_if_lt (pc := 1) (tgt := 16) dX9_has_1 (by decide) (by omega) (fun h_1 => ?_) (fun h_1 => ?_)
  · refine tz_iconst (pc := 16) dX9_has_16 ?_
    exact tz_zret (pc := 17) (z := 0) dX9_has_17 rfl (Or.inl rfl) (Nat.le_of_ble_eq_true rfl) (Nat.le_of_ble_eq_true rfl) ⟨Nat.le_refl _, Nat.le_add_right _ _⟩ ⟨_, rfl, (by decide), ⟨rfl, by split <;> omega⟩⟩
  · refine tz_iload_n (pc := 4) dX9_has_4 rfl rfl ?_
    refine tz_aload_n (pc := 5) dX9_has_5 rfl rfl ?_
    refine tz_fI (pc := 6) (kz := 12) (v := (J 6 12)) dX9_has_6 fl_X9_45 i_6_12 rfl rfl (fun r_6 => ?_)
    refine tz_icmp_ge (pc := 9) (tgt := 16) dX9_has_9 (by decide) (by omega) (by omega) (fun h_9 => ?_) (fun h_9 => ?_)
    · refine tz_iconst (pc := 16) dX9_has_16 ?_
      exact tz_zret (pc := 17) (z := 0) dX9_has_17 rfl (Or.inl rfl) (Nat.le_of_ble_eq_true rfl) (Nat.le_of_ble_eq_true rfl) ⟨Nat.le_refl _, Nat.le_add_right _ _⟩ ⟨_, rfl, (by decide), ⟨rfl, by split <;> omega⟩⟩
    · refine tz_iconst (pc := 12) dX9_has_12 ?_
      refine tz_goto (pc := 13) (tgt := 17) dX9_has_13 (by decide) ?_
      exact tz_zret (pc := 17) (z := 1) dX9_has_17 rfl (Or.inr rfl) (Nat.le_of_ble_eq_true rfl) (Nat.le_of_ble_eq_true rfl) ⟨Nat.le_refl _, Nat.le_add_right _ _⟩ ⟨_, rfl, (by decide), ⟨rfl, by split <;> omega⟩⟩

set_option maxHeartbeats 4000000 in
set_option maxRecDepth 100000 in
theorem c_isVar {l : Launch} {G : tb_G} (hl : l.stackTraces = false) (n : Nat) (J : zJ) (t : Int) (hr_t : -2147483648 ≤ t ∧ t < 2147483648)  (h0 : 0 ≤ t ∧ t < 401) : tz_Ok l G M_X9_isVariable 0 0 0 [.ref 6, zi t] n J (zqi (fun z J' => J = J' ∧ (if J 7 t < 0 then 1 else 0) = z)) zN := by
  refine tz_Ok.of hl (by decide +kernel) rfl (tb_c1 rfl) (Nat.le_of_ble_eq_true rfl) ?_
  show tz_At l G M_X9_isVariable (tb_rm 0 0 0) none (tb_ZM G 0 0 (zQ n 0 (zqi (fun z J' => J = J' ∧ (if J 7 t < 0 then 1 else 0) = z))) (zX n 0 zN)) 0 0 n J 0 [some (.ref 6), some (zi t)] []
  refine tz_aload_n (pc := 0) dX9_isVariable_0 rfl rfl ?_
  refine tz_fR (pc := 1) dX9_isVariable_1 fl_X9_11 r_6_1 ?_
  refine tz_iload_n (pc := 4) dX9_isVariable_4 rfl rfl ?_
  refine tz_aL (pc := 5) (z := t) (v := (J 7 t)) dX9_isVariable_5 a_7 rfl (by omega) rfl (fun r_5 => ?_)
  refine tz_if_ge (pc := 6) (tgt := 13) dX9_isVariable_6 (by decide) (by omega) (fun h_6 => ?_) (fun h_6 => ?_)
  · refine tz_iconst (pc := 13) dX9_isVariable_13 ?_
    exact tz_zret (pc := 14) (z := 0) dX9_isVariable_14 rfl (Or.inl rfl) (Nat.le_of_ble_eq_true rfl) (Nat.le_of_ble_eq_true rfl) ⟨Nat.le_refl _, Nat.le_add_right _ _⟩ ⟨_, rfl, (by decide), ⟨rfl, by split <;> omega⟩⟩
  · refine tz_iconst (pc := 9) dX9_isVariable_9 ?_
    refine tz_goto (pc := 10) (tgt := 14) dX9_isVariable_10 (by decide) ?_
    exact tz_zret (pc := 14) (z := 1) dX9_isVariable_14 rfl (Or.inr rfl) (Nat.le_of_ble_eq_true rfl) (Nat.le_of_ble_eq_true rfl) ⟨Nat.le_refl _, Nat.le_add_right _ _⟩ ⟨_, rfl, (by decide), ⟨rfl, by split <;> omega⟩⟩

set_option maxHeartbeats 4000000 in
set_option maxRecDepth 100000 in
theorem c_arg {l : Launch} {G : tb_G} (hl : l.stackTraces = false) (n : Nat) (J : zJ) (t : Int) (i : Int) (hr_t : -2147483648 ≤ t ∧ t < 2147483648) (hr_i : -2147483648 ≤ i ∧ i < 2147483648)  (h0 : 0 ≤ t * 3 + i ∧ t * 3 + i < 1203) : tz_Ok l G M_X9_argumentOf 0 0 0 [.ref 6, zi t, zi i] n J (zqi (fun z J' => J = J' ∧ J 9 (t * 3 + i) = z)) zN := by
  refine tz_Ok.of hl (by decide +kernel) rfl (tb_c1 rfl) (Nat.le_of_ble_eq_true rfl) ?_
  show tz_At l G M_X9_argumentOf (tb_rm 0 0 0) none (tb_ZM G 0 0 (zQ n 0 (zqi (fun z J' => J = J' ∧ J 9 (t * 3 + i) = z))) (zX n 0 zN)) 0 0 n J 0 [some (.ref 6), some (zi t), some (zi i)] []
  refine tz_aload_n (pc := 0) dX9_argumentOf_0 rfl rfl ?_
  refine tz_fR (pc := 1) dX9_argumentOf_1 fl_X9_18 r_6_3 ?_
  refine tz_iload_n (pc := 4) dX9_argumentOf_4 rfl rfl ?_
  refine tz_iconst (pc := 5) dX9_argumentOf_5 ?_
  refine tz_imul (pc := 6) (v := t * 3) dX9_argumentOf_6 rfl ?_
  refine tz_iload_n (pc := 7) dX9_argumentOf_7 rfl rfl ?_
  refine tz_iadd (pc := 8) (v := (t * 3) + i) dX9_argumentOf_8 rfl ?_
  refine tz_aL (pc := 9) (z := ((t * 3) + i)) (v := (J 9 ((t * 3) + i))) dX9_argumentOf_9 a_9 rfl (by omega) rfl (fun r_9 => ?_)
  exact tz_iret (pc := 10) (z := (J 9 ((t * 3) + i))) dX9_argumentOf_10 rfl (Nat.le_of_ble_eq_true rfl) (Nat.le_of_ble_eq_true rfl) ⟨Nat.le_refl _, Nat.le_add_right _ _⟩ ⟨_, rfl, (by omega), ⟨rfl, rfl⟩⟩

set_option maxHeartbeats 4000000 in
set_option maxRecDepth 100000 in
theorem c_bucket {l : Launch} {G : tb_G} (hl : l.stackTraces = false) (n : Nat) (J : zJ) (t : Int) (hr_t : -2147483648 ≤ t ∧ t < 2147483648)  (h0 : 0 ≤ t ∧ t < 401) (h1 : 0 ≤ J 8 t ∧ J 8 t ≤ 3) (h2 : ∀ i, 0 ≤ i → i < J 8 t → 0 ≤ J 9 (t * 3 + i) ∧ J 9 (t * 3 + i) < 401) : tz_Ok l G M_X9_bucketOf 1 0 0 [.ref 6, zi t] n J (zqi (fun z J' => J = J' ∧ zbk J t = z)) zN := by
  refine tz_Ok.of hl (by decide +kernel) rfl (tb_c1 rfl) (Nat.le_of_ble_eq_true rfl) ?_
  show tz_At l G M_X9_bucketOf (tb_rm 1 0 0) none (tb_ZM G 0 0 (zQ n 0 (zqi (fun z J' => J = J' ∧ zbk J t = z))) (zX n 0 zN)) 0 0 n J 0 [some (.ref 6), some (zi t), none, none] []
  refine tz_aload_n (pc := 0) dX9_bucketOf_0 rfl rfl ?_
  refine tz_fR (pc := 1) dX9_bucketOf_1 fl_X9_11 r_6_1 ?_
  refine tz_iload_n (pc := 4) dX9_bucketOf_4 rfl rfl ?_
  refine tz_aL (pc := 5) (z := t) (v := (J 7 t)) dX9_bucketOf_5 a_7 rfl (by omega) rfl (fun r_5 => ?_)
  refine tz_iconst (pc := 6) dX9_bucketOf_6 ?_
  refine tz_mx (pc := 7) (v := zmx J t 0) dX9_bucketOf_7 ml_X9_86 (Nat.le_of_ble_eq_true rfl) (Nat.le_of_ble_eq_true rfl) (Nat.le_of_ble_eq_true rfl) (Nat.le_of_ble_eq_true rfl) (by omega) (by decide) rfl ?_
  refine tz_istore_n (pc := 10) (L2 := [_, _, _, _]) dX9_bucketOf_10 rfl (by decide) rfl ?_
  refine tz_iconst (pc := 11) dX9_bucketOf_11 ?_
  refine tz_istore_n (pc := 12) (L2 := [_, _, _, _]) dX9_bucketOf_12 rfl (by decide) rfl ?_
  have loop13 : ∀ (f9 : Nat) (i : Int) (x : Int), ((3 - i).toNat) < f9 → (0 ≤ i ∧ i ≤ J 8 t) → (x = zmx J t i.toNat) → tz_At l G M_X9_bucketOf (tb_rm 1 0 0) none (tb_ZM G 0 0 (zQ n 0 (zqi (fun z J' => J = J' ∧ zbk J t = z))) (zX n 0 zN)) 0 0 n J 13 [some (.ref 6), some (zi t), some (zi x), some (zi i)] [] := by
    intro f9
    induction f9 with
    | zero => intro i x hm9; exact absurd hm9 (Nat.not_lt_zero _)
    | succ f9 ih13 =>
      intro i x hm13 hi hx
      refine tz_iload_n (pc := 13) dX9_bucketOf_13 rfl rfl ?_
      refine tz_aload_n (pc := 14) dX9_bucketOf_14 rfl rfl ?_
      refine tz_fR (pc := 15) dX9_bucketOf_15 fl_X9_15 r_6_2 ?_
      refine tz_iload_n (pc := 18) dX9_bucketOf_18 rfl rfl ?_
      refine tz_aL (pc := 19) (z := t) (v := (J 8 t)) dX9_bucketOf_19 a_8 rfl (by omega) rfl (fun r_19 => ?_)
      refine tz_icmp_ge (pc := 20) (tgt := 50) dX9_bucketOf_20 (by decide) (by omega) (by omega) (fun h_20 => ?_) (fun h_20 => ?_)
      · refine tz_iload_n (pc := 50) dX9_bucketOf_50 rfl rfl ?_
        refine tz_iload_n (pc := 51) dX9_bucketOf_51 rfl rfl ?_
        refine tz_bipush (pc := 52) dX9_bucketOf_52 (by decide) ?_
        refine tz_iushr (pc := 54) (v := zushr x 8) dX9_bucketOf_54 rfl ?_
        refine tz_ixor (pc := 55) (v := zxor x (zushr x 8)) dX9_bucketOf_55 rfl ?_
        refine tz_sipush (pc := 56) dX9_bucketOf_56 (by decide) ?_
        refine tz_iand (pc := 59) (v := zand (zxor x (zushr x 8)) 255) dX9_bucketOf_59 rfl ?_
        exact tz_iret (pc := 60) (z := (zand (zxor x (zushr x 8)) 255)) dX9_bucketOf_60 rfl (Nat.le_of_ble_eq_true rfl) (Nat.le_of_ble_eq_true rfl) ⟨Nat.le_refl _, Nat.le_add_right _ _⟩ ⟨_, rfl, (zand_rg _ _), ⟨rfl, by rw [hx, show i = J 8 t by omega]; rfl⟩⟩
      · refine tz_iload_n (pc := 23) dX9_bucketOf_23 rfl rfl ?_
        refine tz_bipush (pc := 24) dX9_bucketOf_24 (by decide) ?_
        refine tz_imul (pc := 26) (v := x * 37) dX9_bucketOf_26 rfl ?_
        refine tz_aload_n (pc := 27) dX9_bucketOf_27 rfl rfl ?_
        refine tz_fR (pc := 28) dX9_bucketOf_28 fl_X9_33 r_6_8 ?_
        refine tz_aload_n (pc := 31) dX9_bucketOf_31 rfl rfl ?_
        refine tz_fR (pc := 32) dX9_bucketOf_32 fl_X9_18 r_6_3 ?_
        refine tz_iload_n (pc := 35) dX9_bucketOf_35 rfl rfl ?_
        refine tz_iconst (pc := 36) dX9_bucketOf_36 ?_
        refine tz_imul (pc := 37) (v := t * 3) dX9_bucketOf_37 rfl ?_
        refine tz_iload_n (pc := 38) dX9_bucketOf_38 rfl rfl ?_
        refine tz_iadd (pc := 39) (v := (t * 3) + i) dX9_bucketOf_39 rfl ?_
        have hp := h2 i (by omega) (by omega)
        refine tz_aL (pc := 40) (z := ((t * 3) + i)) (v := (J 9 ((t * 3) + i))) dX9_bucketOf_40 a_9 rfl (by omega) rfl (fun r_40 => ?_)
        refine tz_aL (pc := 41) (z := (J 9 ((t * 3) + i))) (v := (J 14 (J 9 ((t * 3) + i)))) dX9_bucketOf_41 a_14 rfl (by omega) rfl (fun r_41 => ?_)
        refine tz_iadd (pc := 42) (v := (x * 37) + (J 14 (J 9 ((t * 3) + i)))) dX9_bucketOf_42 rfl ?_
        refine tz_istore_n (pc := 43) (L2 := [_, _, _, _]) dX9_bucketOf_43 rfl (by decide) rfl ?_
        refine tz_iinc (pc := 44) (z := i + 1) (L2 := [_, _, _, _]) dX9_bucketOf_44 rfl (by omega) rfl ?_
        refine tz_goto (pc := 47) (tgt := 13) dX9_bucketOf_47 (by decide) ?_
        exact ih13 (i + 1) _ (by omega) (by omega) (by rw [hx, show (i + 1).toNat = i.toNat + 1 by omega]; simp only [zmx]; rw [show ((i.toNat : Nat) : Int) = i by omega])
  exact loop13 _ 0 _ (Nat.lt_succ_self _) (by omega) rfl

set_option maxHeartbeats 4000000 in
set_option maxRecDepth 100000 in
theorem c_same {l : Launch} {G : tb_G} (hl : l.stackTraces = false) (n : Nat) (J : zJ) (s : Int) (t : Int) (hr_s : -2147483648 ≤ s ∧ s < 2147483648) (hr_t : -2147483648 ≤ t ∧ t < 2147483648)  (h0 : 0 ≤ t ∧ t < 401) (h1 : 0 ≤ s ∧ s < 401) (h2 : 0 ≤ J 8 t ∧ J 8 t ≤ 3) : tz_Ok l G M_X9_isSame 0 0 0 [.ref 6, zi s, zi t] n J (zqi (fun z J' => J = J' ∧ (z = 0 ∨ z = 1) ∧ (z = 1 ↔ (J 7 s = J 7 t ∧ ∀ j, 0 ≤ j → j < J 8 t → J 9 (s * 3 + j) = J 9 (t * 3 + j))))) zN := by
  refine tz_Ok.of hl (by decide +kernel) rfl (tb_c1 rfl) (Nat.le_of_ble_eq_true rfl) ?_
  show tz_At l G M_X9_isSame (tb_rm 0 0 0) none (tb_ZM G 0 0 (zQ n 0 (zqi (fun z J' => J = J' ∧ (z = 0 ∨ z = 1) ∧ (z = 1 ↔ (J 7 s = J 7 t ∧ ∀ j, 0 ≤ j → j < J 8 t → J 9 (s * 3 + j) = J 9 (t * 3 + j)))))) (zX n 0 zN)) 0 0 n J 0 [some (.ref 6), some (zi s), some (zi t), none, none] []
  refine tz_aload_n (pc := 0) dX9_isSame_0 rfl rfl ?_
  refine tz_fR (pc := 1) dX9_isSame_1 fl_X9_11 r_6_1 ?_
  refine tz_iload_n (pc := 4) dX9_isSame_4 rfl rfl ?_
  refine tz_aL (pc := 5) (z := s) (v := (J 7 s)) dX9_isSame_5 a_7 rfl (by omega) rfl (fun r_5 => ?_)
  refine tz_aload_n (pc := 6) dX9_isSame_6 rfl rfl ?_
  refine tz_fR (pc := 7) dX9_isSame_7 fl_X9_11 r_6_1 ?_
  refine tz_iload_n (pc := 10) dX9_isSame_10 rfl rfl ?_
  refine tz_aL (pc := 11) (z := t) (v := (J 7 t)) dX9_isSame_11 a_7 rfl (by omega) rfl (fun r_11 => ?_)
  have join20 : ∀ (e : Int), (-2147483648 ≤ e ∧ e < 2147483648) → ((e = 0 ∨ e = 1) ∧ (e = 1 ↔ J 7 s = J 7 t)) → tz_At l G M_X9_isSame (tb_rm 0 0 0) none (tb_ZM G 0 0 (zQ n 0 (zqi (fun z J' => J = J' ∧ (z = 0 ∨ z = 1) ∧ (z = 1 ↔ (J 7 s = J 7 t ∧ ∀ j, 0 ≤ j → j < J 8 t → J 9 (s * 3 + j) = J 9 (t * 3 + j)))))) (zX n 0 zN)) 0 0 n J 20 [some (.ref 6), some (zi s), some (zi t), none, none] (zi e :: []) := by
    intro e hr_e
    intro hj_20
    refine tz_istore_n (pc := 20) (L2 := [_, _, _, _, _]) dX9_isSame_20 rfl (by decide) rfl ?_
    refine tz_iconst (pc := 21) dX9_isSame_21 ?_
    refine tz_istore (pc := 22) (L2 := [_, _, _, _, _]) dX9_isSame_22 (by decide) rfl ?_
    have loop24 : ∀ (f9 : Nat) (i : Int) (x : Int), ((3 - i).toNat) < f9 → (0 ≤ i ∧ i ≤ J 8 t) → ((x = 0 ∨ x = 1) ∧ (x = 1 → (J 7 s = J 7 t ∧ ∀ j, 0 ≤ j → j < i → J 9 (s * 3 + j) = J 9 (t * 3 + j))) ∧ (x = 0 → ¬ (J 7 s = J 7 t ∧ ∀ j, 0 ≤ j → j < J 8 t → J 9 (s * 3 + j) = J 9 (t * 3 + j)))) → tz_At l G M_X9_isSame (tb_rm 0 0 0) none (tb_ZM G 0 0 (zQ n 0 (zqi (fun z J' => J = J' ∧ (z = 0 ∨ z = 1) ∧ (z = 1 ↔ (J 7 s = J 7 t ∧ ∀ j, 0 ≤ j → j < J 8 t → J 9 (s * 3 + j) = J 9 (t * 3 + j)))))) (zX n 0 zN)) 0 0 n J 24 [some (.ref 6), some (zi s), some (zi t), some (zi x), some (zi i)] [] := by
      intro f9
      induction f9 with
      | zero => intro i x hm9; exact absurd hm9 (Nat.not_lt_zero _)
      | succ f9 ih24 =>
        intro i x hm24 hi hx
        refine tz_iload (pc := 24) dX9_isSame_24 rfl ?_
        refine tz_aload_n (pc := 26) dX9_isSame_26 rfl rfl ?_
        refine tz_fR (pc := 27) dX9_isSame_27 fl_X9_15 r_6_2 ?_
        refine tz_iload_n (pc := 30) dX9_isSame_30 rfl rfl ?_
        refine tz_aL (pc := 31) (z := t) (v := (J 8 t)) dX9_isSame_31 a_8 rfl (by omega) rfl (fun r_31 => ?_)
        refine tz_icmp_ge (pc := 32) (tgt := 76) dX9_isSame_32 (by decide) (by omega) (by omega) (fun h_32 => ?_) (fun h_32 => ?_)
        · refine tz_iload_n (pc := 76) dX9_isSame_76 rfl rfl ?_
          exact tz_zret (pc := 77) (z := x) dX9_isSame_77 rfl hx.1 (Nat.le_of_ble_eq_true rfl) (Nat.le_of_ble_eq_true rfl) ⟨Nat.le_refl _, Nat.le_add_right _ _⟩ ⟨_, rfl, (by omega), ⟨rfl, hx.1, ⟨fun h => ⟨(hx.2.1 h).1, fun j a b => (hx.2.1 h).2 j a (by omega)⟩, fun h => hx.1.elim (fun h9 => absurd h (hx.2.2 h9)) (fun h9 => h9)⟩⟩⟩
        · refine tz_iload_n (pc := 35) dX9_isSame_35 rfl rfl ?_
          refine tz_if_eq (pc := 36) (tgt := 76) dX9_isSame_36 (by decide) (by omega) (fun h_36 => ?_) (fun h_36 => ?_)
          · refine tz_iload_n (pc := 76) dX9_isSame_76 rfl rfl ?_
            exact tz_zret (pc := 77) (z := x) dX9_isSame_77 rfl hx.1 (Nat.le_of_ble_eq_true rfl) (Nat.le_of_ble_eq_true rfl) ⟨Nat.le_refl _, Nat.le_add_right _ _⟩ ⟨_, rfl, (by omega), ⟨rfl, hx.1, ⟨fun h => ⟨(hx.2.1 h).1, fun j a b => (hx.2.1 h).2 j a (by omega)⟩, fun h => hx.1.elim (fun h9 => absurd h (hx.2.2 h9)) (fun h9 => h9)⟩⟩⟩
          · refine tz_aload_n (pc := 39) dX9_isSame_39 rfl rfl ?_
            refine tz_fR (pc := 40) dX9_isSame_40 fl_X9_18 r_6_3 ?_
            refine tz_iload_n (pc := 43) dX9_isSame_43 rfl rfl ?_
            refine tz_iconst (pc := 44) dX9_isSame_44 ?_
            refine tz_imul (pc := 45) (v := s * 3) dX9_isSame_45 rfl ?_
            refine tz_iload (pc := 46) dX9_isSame_46 rfl ?_
            refine tz_iadd (pc := 48) (v := (s * 3) + i) dX9_isSame_48 rfl ?_
            refine tz_aL (pc := 49) (z := ((s * 3) + i)) (v := (J 9 ((s * 3) + i))) dX9_isSame_49 a_9 rfl (by omega) rfl (fun r_49 => ?_)
            refine tz_aload_n (pc := 50) dX9_isSame_50 rfl rfl ?_
            refine tz_fR (pc := 51) dX9_isSame_51 fl_X9_18 r_6_3 ?_
            refine tz_iload_n (pc := 54) dX9_isSame_54 rfl rfl ?_
            refine tz_iconst (pc := 55) dX9_isSame_55 ?_
            refine tz_imul (pc := 56) (v := t * 3) dX9_isSame_56 rfl ?_
            refine tz_iload (pc := 57) dX9_isSame_57 rfl ?_
            refine tz_iadd (pc := 59) (v := (t * 3) + i) dX9_isSame_59 rfl ?_
            refine tz_aL (pc := 60) (z := ((t * 3) + i)) (v := (J 9 ((t * 3) + i))) dX9_isSame_60 a_9 rfl (by omega) rfl (fun r_60 => ?_)
            have join69 : ∀ (e2 : Int), (-2147483648 ≤ e2 ∧ e2 < 2147483648) → ((e2 = 0 ∨ e2 = 1) ∧ (e2 = 1 ↔ J 9 (s * 3 + i) = J 9 (t * 3 + i))) → tz_At l G M_X9_isSame (tb_rm 0 0 0) none (tb_ZM G 0 0 (zQ n 0 (zqi (fun z J' => J = J' ∧ (z = 0 ∨ z = 1) ∧ (z = 1 ↔ (J 7 s = J 7 t ∧ ∀ j, 0 ≤ j → j < J 8 t → J 9 (s * 3 + j) = J 9 (t * 3 + j)))))) (zX n 0 zN)) 0 0 n J 69 [some (.ref 6), some (zi s), some (zi t), some (zi x), some (zi i)] (zi e2 :: []) := by
              intro e2 hr_e2
              intro hj_69
              refine tz_istore_n (pc := 69) (L2 := [_, _, _, _, _]) dX9_isSame_69 rfl (by decide) rfl ?_
              refine tz_iinc (pc := 70) (z := i + 1) (L2 := [_, _, _, _, _]) dX9_isSame_70 rfl (by omega) rfl ?_
              refine tz_goto (pc := 73) (tgt := 24) dX9_isSame_73 (by decide) ?_
              exact ih24 (i + 1) _ (by omega) (by omega) ⟨hj_69.1, fun h => ⟨(hx.2.1 (by omega)).1, fun j a b => (Decidable.em (j = i)).elim (fun e9 => by rw [e9]; exact hj_69.2.mp h) (fun e9 => (hx.2.1 (by omega)).2 j a (by omega))⟩, fun h g => by have := hj_69.2.mpr (g.2 i (by omega) (by omega)); omega⟩
            refine tz_icmp_ne (pc := 61) (tgt := 68) dX9_isSame_61 (by decide) (by omega) (by omega) (fun h_61 => ?_) (fun h_61 => ?_)
            · refine tz_iconst (pc := 68) dX9_isSame_68 ?_
              exact join69 0 (by decide) (by omega)
            · refine tz_iconst (pc := 64) dX9_isSame_64 ?_
              refine tz_goto (pc := 65) (tgt := 69) dX9_isSame_65 (by decide) ?_
              exact join69 1 (by decide) (by omega)
    exact loop24 _ 0 _ (Nat.lt_succ_self _) (by omega) ⟨hj_20.1, fun h => ⟨hj_20.2.mp h, fun j a b => by omega⟩, fun h g => by have := hj_20.2.mpr g.1; omega⟩
  refine tz_icmp_ne (pc := 12) (tgt := 19) dX9_isSame_12 (by decide) (by omega) (by omega) (fun h_12 => ?_) (fun h_12 => ?_)
  · refine tz_iconst (pc := 19) dX9_isSame_19 ?_
    exact join20 0 (by decide) (by omega)
  · refine tz_iconst (pc := 15) dX9_isSame_15 ?_
    refine tz_goto (pc := 16) (tgt := 20) dX9_isSame_16 (by decide) ?_
    exact join20 1 (by decide) (by omega)

set_option maxHeartbeats 4000000 in
set_option maxRecDepth 100000 in
theorem c_shape {l : Launch} {G : tb_G} (hl : l.stackTraces = false) (n : Nat) (J : zJ) (s : Int) (t : Int) (hr_s : -2147483648 ≤ s ∧ s < 2147483648) (hr_t : -2147483648 ≤ t ∧ t < 2147483648)  (h0 : 0 ≤ t ∧ t < 401) (h1 : 0 ≤ s ∧ s < 401) (h2 : 0 ≤ J 8 t ∧ J 8 t ≤ 3) (h3 : J 7 t < 0 → J 8 t = 0) (h4 : ∀ i, 0 ≤ i → i < J 8 t → 0 ≤ J 9 (t * 3 + i) ∧ J 9 (t * 3 + i) < 401) (h5 : J 7 s = J 7 t → ∀ i, 0 ≤ i → i < J 8 t → 0 ≤ J 9 (s * 3 + i) ∧ J 9 (s * 3 + i) < 401) : tz_Ok l G M_X9_hasShapeOf 0 0 0 [.ref 6, zi s, zi t] n J (zqi (fun z J' => J = J' ∧ (z = 0 ∨ z = 1) ∧ (z = 1 ↔ ((J 7 s = J 7 t ∨ (J 7 s < 0 ∧ J 7 t < 0)) ∧ ∀ j, 0 ≤ j → j < J 8 t → J 14 (J 9 (s * 3 + j)) = J 14 (J 9 (t * 3 + j)))))) zN := by
  refine tz_Ok.of hl (by decide +kernel) rfl (tb_c1 rfl) (Nat.le_of_ble_eq_true rfl) ?_
  show tz_At l G M_X9_hasShapeOf (tb_rm 0 0 0) none (tb_ZM G 0 0 (zQ n 0 (zqi (fun z J' => J = J' ∧ (z = 0 ∨ z = 1) ∧ (z = 1 ↔ ((J 7 s = J 7 t ∨ (J 7 s < 0 ∧ J 7 t < 0)) ∧ ∀ j, 0 ≤ j → j < J 8 t → J 14 (J 9 (s * 3 + j)) = J 14 (J 9 (t * 3 + j))))))) (zX n 0 zN)) 0 0 n J 0 [some (.ref 6), some (zi s), some (zi t), none, none] []
  refine tz_aload_n (pc := 0) dX9_hasShapeOf_0 rfl rfl ?_
  refine tz_fR (pc := 1) dX9_hasShapeOf_1 fl_X9_11 r_6_1 ?_
  refine tz_iload_n (pc := 4) dX9_hasShapeOf_4 rfl rfl ?_
  refine tz_aL (pc := 5) (z := s) (v := (J 7 s)) dX9_hasShapeOf_5 a_7 rfl (by omega) rfl (fun r_5 => ?_)
  refine tz_aload_n (pc := 6) dX9_hasShapeOf_6 rfl rfl ?_
  refine tz_fR (pc := 7) dX9_hasShapeOf_7 fl_X9_11 r_6_1 ?_
  refine tz_iload_n (pc := 10) dX9_hasShapeOf_10 rfl rfl ?_
  refine tz_aL (pc := 11) (z := t) (v := (J 7 t)) dX9_hasShapeOf_11 a_7 rfl (by omega) rfl (fun r_11 => ?_)
  have join38 : ∀ (e : Int), (-2147483648 ≤ e ∧ e < 2147483648) → ((e = 0 ∨ e = 1) ∧ (e = 1 ↔ (J 7 s = J 7 t ∨ (J 7 s < 0 ∧ J 7 t < 0)))) → tz_At l G M_X9_hasShapeOf (tb_rm 0 0 0) none (tb_ZM G 0 0 (zQ n 0 (zqi (fun z J' => J = J' ∧ (z = 0 ∨ z = 1) ∧ (z = 1 ↔ ((J 7 s = J 7 t ∨ (J 7 s < 0 ∧ J 7 t < 0)) ∧ ∀ j, 0 ≤ j → j < J 8 t → J 14 (J 9 (s * 3 + j)) = J 14 (J 9 (t * 3 + j))))))) (zX n 0 zN)) 0 0 n J 38 [some (.ref 6), some (zi s), some (zi t), none, none] (zi e :: []) := by
    intro e hr_e
    intro hj_38
    refine tz_istore_n (pc := 38) (L2 := [_, _, _, _, _]) dX9_hasShapeOf_38 rfl (by decide) rfl ?_
    refine tz_iconst (pc := 39) dX9_hasShapeOf_39 ?_
    refine tz_istore (pc := 40) (L2 := [_, _, _, _, _]) dX9_hasShapeOf_40 (by decide) rfl ?_
    have loop42 : ∀ (f9 : Nat) (i : Int) (x : Int), ((3 - i).toNat) < f9 → (0 ≤ i ∧ i ≤ J 8 t) → ((x = 0 ∨ x = 1) ∧ (x = 1 → ((J 7 s = J 7 t ∨ (J 7 s < 0 ∧ J 7 t < 0)) ∧ ∀ j, 0 ≤ j → j < i → J 14 (J 9 (s * 3 + j)) = J 14 (J 9 (t * 3 + j)))) ∧ (x = 0 → ¬ ((J 7 s = J 7 t ∨ (J 7 s < 0 ∧ J 7 t < 0)) ∧ ∀ j, 0 ≤ j → j < J 8 t → J 14 (J 9 (s * 3 + j)) = J 14 (J 9 (t * 3 + j))))) → tz_At l G M_X9_hasShapeOf (tb_rm 0 0 0) none (tb_ZM G 0 0 (zQ n 0 (zqi (fun z J' => J = J' ∧ (z = 0 ∨ z = 1) ∧ (z = 1 ↔ ((J 7 s = J 7 t ∨ (J 7 s < 0 ∧ J 7 t < 0)) ∧ ∀ j, 0 ≤ j → j < J 8 t → J 14 (J 9 (s * 3 + j)) = J 14 (J 9 (t * 3 + j))))))) (zX n 0 zN)) 0 0 n J 42 [some (.ref 6), some (zi s), some (zi t), some (zi x), some (zi i)] [] := by
      intro f9
      induction f9 with
      | zero => intro i x hm9; exact absurd hm9 (Nat.not_lt_zero _)
      | succ f9 ih42 =>
        intro i x hm42 hi hx
        refine tz_iload (pc := 42) dX9_hasShapeOf_42 rfl ?_
        refine tz_aload_n (pc := 44) dX9_hasShapeOf_44 rfl rfl ?_
        refine tz_fR (pc := 45) dX9_hasShapeOf_45 fl_X9_15 r_6_2 ?_
        refine tz_iload_n (pc := 48) dX9_hasShapeOf_48 rfl rfl ?_
        refine tz_aL (pc := 49) (z := t) (v := (J 8 t)) dX9_hasShapeOf_49 a_8 rfl (by omega) rfl (fun r_49 => ?_)
        refine tz_icmp_ge (pc := 50) (tgt := 104) dX9_hasShapeOf_50 (by decide) (by omega) (by omega) (fun h_50 => ?_) (fun h_50 => ?_)
        · refine tz_iload_n (pc := 104) dX9_hasShapeOf_104 rfl rfl ?_
          exact tz_zret (pc := 105) (z := x) dX9_hasShapeOf_105 rfl hx.1 (Nat.le_of_ble_eq_true rfl) (Nat.le_of_ble_eq_true rfl) ⟨Nat.le_refl _, Nat.le_add_right _ _⟩ ⟨_, rfl, (by omega), ⟨rfl, hx.1, ⟨fun h => ⟨(hx.2.1 h).1, fun j a b => (hx.2.1 h).2 j a (by omega)⟩, fun h => hx.1.elim (fun h9 => absurd h (hx.2.2 h9)) (fun h9 => h9)⟩⟩⟩
        · refine tz_iload_n (pc := 53) dX9_hasShapeOf_53 rfl rfl ?_
          refine tz_if_eq (pc := 54) (tgt := 104) dX9_hasShapeOf_54 (by decide) (by omega) (fun h_54 => ?_) (fun h_54 => ?_)
          · refine tz_iload_n (pc := 104) dX9_hasShapeOf_104 rfl rfl ?_
            exact tz_zret (pc := 105) (z := x) dX9_hasShapeOf_105 rfl hx.1 (Nat.le_of_ble_eq_true rfl) (Nat.le_of_ble_eq_true rfl) ⟨Nat.le_refl _, Nat.le_add_right _ _⟩ ⟨_, rfl, (by omega), ⟨rfl, hx.1, ⟨fun h => ⟨(hx.2.1 h).1, fun j a b => (hx.2.1 h).2 j a (by omega)⟩, fun h => hx.1.elim (fun h9 => absurd h (hx.2.2 h9)) (fun h9 => h9)⟩⟩⟩
          · have hp := h4 i (by omega) (by omega)
            have hp2 := h5 (by have := (hx.2.1 (by omega)).1; omega) i (by omega) (by omega)
            refine tz_aload_n (pc := 57) dX9_hasShapeOf_57 rfl rfl ?_
            refine tz_fR (pc := 58) dX9_hasShapeOf_58 fl_X9_33 r_6_8 ?_
            refine tz_aload_n (pc := 61) dX9_hasShapeOf_61 rfl rfl ?_
            refine tz_fR (pc := 62) dX9_hasShapeOf_62 fl_X9_18 r_6_3 ?_
            refine tz_iload_n (pc := 65) dX9_hasShapeOf_65 rfl rfl ?_
            refine tz_iconst (pc := 66) dX9_hasShapeOf_66 ?_
            refine tz_imul (pc := 67) (v := s * 3) dX9_hasShapeOf_67 rfl ?_
            refine tz_iload (pc := 68) dX9_hasShapeOf_68 rfl ?_
            refine tz_iadd (pc := 70) (v := (s * 3) + i) dX9_hasShapeOf_70 rfl ?_
            refine tz_aL (pc := 71) (z := ((s * 3) + i)) (v := (J 9 ((s * 3) + i))) dX9_hasShapeOf_71 a_9 rfl (by omega) rfl (fun r_71 => ?_)
            refine tz_aL (pc := 72) (z := (J 9 ((s * 3) + i))) (v := (J 14 (J 9 ((s * 3) + i)))) dX9_hasShapeOf_72 a_14 rfl (by omega) rfl (fun r_72 => ?_)
            refine tz_aload_n (pc := 73) dX9_hasShapeOf_73 rfl rfl ?_
            refine tz_fR (pc := 74) dX9_hasShapeOf_74 fl_X9_33 r_6_8 ?_
            refine tz_aload_n (pc := 77) dX9_hasShapeOf_77 rfl rfl ?_
            refine tz_fR (pc := 78) dX9_hasShapeOf_78 fl_X9_18 r_6_3 ?_
            refine tz_iload_n (pc := 81) dX9_hasShapeOf_81 rfl rfl ?_
            refine tz_iconst (pc := 82) dX9_hasShapeOf_82 ?_
            refine tz_imul (pc := 83) (v := t * 3) dX9_hasShapeOf_83 rfl ?_
            refine tz_iload (pc := 84) dX9_hasShapeOf_84 rfl ?_
            refine tz_iadd (pc := 86) (v := (t * 3) + i) dX9_hasShapeOf_86 rfl ?_
            refine tz_aL (pc := 87) (z := ((t * 3) + i)) (v := (J 9 ((t * 3) + i))) dX9_hasShapeOf_87 a_9 rfl (by omega) rfl (fun r_87 => ?_)
            refine tz_aL (pc := 88) (z := (J 9 ((t * 3) + i))) (v := (J 14 (J 9 ((t * 3) + i)))) dX9_hasShapeOf_88 a_14 rfl (by omega) rfl (fun r_88 => ?_)
            have join97 : ∀ (e2 : Int), (-2147483648 ≤ e2 ∧ e2 < 2147483648) → ((e2 = 0 ∨ e2 = 1) ∧ (e2 = 1 ↔ J 14 (J 9 (s * 3 + i)) = J 14 (J 9 (t * 3 + i)))) → tz_At l G M_X9_hasShapeOf (tb_rm 0 0 0) none (tb_ZM G 0 0 (zQ n 0 (zqi (fun z J' => J = J' ∧ (z = 0 ∨ z = 1) ∧ (z = 1 ↔ ((J 7 s = J 7 t ∨ (J 7 s < 0 ∧ J 7 t < 0)) ∧ ∀ j, 0 ≤ j → j < J 8 t → J 14 (J 9 (s * 3 + j)) = J 14 (J 9 (t * 3 + j))))))) (zX n 0 zN)) 0 0 n J 97 [some (.ref 6), some (zi s), some (zi t), some (zi x), some (zi i)] (zi e2 :: []) := by
              intro e2 hr_e2
              intro hj_97
              refine tz_istore_n (pc := 97) (L2 := [_, _, _, _, _]) dX9_hasShapeOf_97 rfl (by decide) rfl ?_
              refine tz_iinc (pc := 98) (z := i + 1) (L2 := [_, _, _, _, _]) dX9_hasShapeOf_98 rfl (by omega) rfl ?_
              refine tz_goto (pc := 101) (tgt := 42) dX9_hasShapeOf_101 (by decide) ?_
              exact ih42 (i + 1) _ (by omega) (by omega) ⟨hj_97.1, fun h => ⟨(hx.2.1 (by omega)).1, fun j a b => (Decidable.em (j = i)).elim (fun e9 => by rw [e9]; exact hj_97.2.mp h) (fun e9 => (hx.2.1 (by omega)).2 j a (by omega))⟩, fun h g => by have := hj_97.2.mpr (g.2 i (by omega) (by omega)); omega⟩
            refine tz_icmp_ne (pc := 89) (tgt := 96) dX9_hasShapeOf_89 (by decide) (by omega) (by omega) (fun h_89 => ?_) (fun h_89 => ?_)
            · refine tz_iconst (pc := 96) dX9_hasShapeOf_96 ?_
              exact join97 0 (by decide) (by omega)
            · refine tz_iconst (pc := 92) dX9_hasShapeOf_92 ?_
              refine tz_goto (pc := 93) (tgt := 97) dX9_hasShapeOf_93 (by decide) ?_
              exact join97 1 (by decide) (by omega)
    exact loop42 _ 0 _ (Nat.lt_succ_self _) (by omega) ⟨hj_38.1, fun h => ⟨hj_38.2.mp h, fun j a b => by omega⟩, fun h g => by have := hj_38.2.mpr g.1; omega⟩
  refine tz_icmp_eq (pc := 12) (tgt := 33) dX9_hasShapeOf_12 (by decide) (by omega) (by omega) (fun h_12 => ?_) (fun h_12 => ?_)
  · refine tz_iconst (pc := 33) dX9_hasShapeOf_33 ?_
    refine tz_goto (pc := 34) (tgt := 38) dX9_hasShapeOf_34 (by decide) ?_
    exact join38 1 (by decide) (by omega)
  · refine tz_aload_n (pc := 15) dX9_hasShapeOf_15 rfl rfl ?_
    refine tz_fR (pc := 16) dX9_hasShapeOf_16 fl_X9_11 r_6_1 ?_
    refine tz_iload_n (pc := 19) dX9_hasShapeOf_19 rfl rfl ?_
    refine tz_aL (pc := 20) (z := s) (v := (J 7 s)) dX9_hasShapeOf_20 a_7 rfl (by omega) rfl (fun r_20 => ?_)
    refine tz_if_ge (pc := 21) (tgt := 37) dX9_hasShapeOf_21 (by decide) (by omega) (fun h_21 => ?_) (fun h_21 => ?_)
    · refine tz_iconst (pc := 37) dX9_hasShapeOf_37 ?_
      exact join38 0 (by decide) (by omega)
    · refine tz_aload_n (pc := 24) dX9_hasShapeOf_24 rfl rfl ?_
      refine tz_fR (pc := 25) dX9_hasShapeOf_25 fl_X9_11 r_6_1 ?_
      refine tz_iload_n (pc := 28) dX9_hasShapeOf_28 rfl rfl ?_
      refine tz_aL (pc := 29) (z := t) (v := (J 7 t)) dX9_hasShapeOf_29 a_7 rfl (by omega) rfl (fun r_29 => ?_)
      refine tz_if_ge (pc := 30) (tgt := 37) dX9_hasShapeOf_30 (by decide) (by omega) (fun h_30 => ?_) (fun h_30 => ?_)
      · refine tz_iconst (pc := 37) dX9_hasShapeOf_37 ?_
        exact join38 0 (by decide) (by omega)
      · refine tz_iconst (pc := 33) dX9_hasShapeOf_33 ?_
        refine tz_goto (pc := 34) (tgt := 38) dX9_hasShapeOf_34 (by decide) ?_
        exact join38 1 (by decide) (by omega)

set_option maxHeartbeats 4000000 in
set_option maxRecDepth 100000 in
theorem c_meas0 {l : Launch} {G : tb_G} (hl : l.stackTraces = false) (n : Nat) (J : zJ) (t : Int) (hr_t : -2147483648 ≤ t ∧ t < 2147483648)  (h0 : 0 ≤ t ∧ t < 401) (hw : 0 ≤ J 11 t ∧ J 11 t ≤ 9) (hp : ∀ i, 0 ≤ i → i < J 8 t → (0 ≤ J 9 (t * 3 + i) ∧ J 9 (t * 3 + i) < t) ∧ (0 ≤ J 10 (J 9 (t * 3 + i)) ∧ J 10 (J 9 (t * 3 + i)) ≤ 364) ∧ (0 ≤ J 11 (J 9 (t * 3 + i)) ∧ J 11 (J 9 (t * 3 + i)) ≤ 4000) ∧ 0 ≤ J 12 (J 9 (t * 3 + i)) ∧ J 12 (J 9 (t * 3 + i)) ≤ 6) (ha : J 8 t = 0) : tz_Ok l G M_X9_measure 1 0 0 [.ref 6, zi t] n J (zqv (fun J' => zOf (zbut [10, 11, 12, 13]) J' J ∧ (∀ k, ¬ k = t → J' 10 k = J 10 k ∧ J' 11 k = J 11 k ∧ J' 12 k = J 12 k ∧ J' 13 k = J 13 k) ∧ J' 10 t = 1 + zs3 J t ∧ J' 11 t = J 11 t + zw3 J t ∧ J' 12 t = zd3 J t ∧ J' 13 t = zv3 J t)) zN := by
  refine tz_Ok.of hl (by decide +kernel) rfl (tb_c1 rfl) (Nat.le_of_ble_eq_true rfl) ?_
  show tz_At l G M_X9_measure (tb_rm 1 0 0) none (tb_ZM G 0 0 (zQ n 0 (zqv (fun J' => zOf (zbut [10, 11, 12, 13]) J' J ∧ (∀ k, ¬ k = t → J' 10 k = J 10 k ∧ J' 11 k = J 11 k ∧ J' 12 k = J 12 k ∧ J' 13 k = J 13 k) ∧ J' 10 t = 1 + zs3 J t ∧ J' 11 t = J 11 t + zw3 J t ∧ J' 12 t = zd3 J t ∧ J' 13 t = zv3 J t))) (zX n 0 zN)) 0 0 n J 0 [some (.ref 6), some (zi t), none, none] []
  refine tz_aload_n (pc := 0) dX9_measure_0 rfl rfl ?_
  refine tz_fR (pc := 1) dX9_measure_1 fl_X9_21 r_6_4 ?_
  refine tz_iload_n (pc := 4) dX9_measure_4 rfl rfl ?_
  refine tz_iconst (pc := 5) dX9_measure_5 ?_
  refine tz_aS (pc := 6) (z := t) dX9_measure_6 a_10 rfl (by omega) (by decide) ?_
  refine tz_aload_n (pc := 7) dX9_measure_7 rfl rfl ?_
  refine tz_fR (pc := 8) dX9_measure_8 fl_X9_27 r_6_6 ?_
  refine tz_iload_n (pc := 11) dX9_measure_11 rfl rfl ?_
  refine tz_iconst (pc := 12) dX9_measure_12 ?_
  refine tz_aS (pc := 13) (z := t) dX9_measure_13 a_12 rfl (by omega) (by decide) ?_
  refine tz_aload_n (pc := 14) dX9_measure_14 rfl rfl ?_
  refine tz_fR (pc := 15) dX9_measure_15 fl_X9_30 r_6_7 ?_
  refine tz_iload_n (pc := 18) dX9_measure_18 rfl rfl ?_
  refine tz_aload_n (pc := 19) dX9_measure_19 rfl rfl ?_
  refine tz_fR (pc := 20) dX9_measure_20 fl_X9_11 r_6_1 ?_
  refine tz_iload_n (pc := 23) dX9_measure_23 rfl rfl ?_
  refine tz_aL (pc := 24) (z := t) (v := (J 7 t)) dX9_measure_24 a_7 rfl (by omega) rfl (fun r_24 => ?_)
  have join42 : ∀ (v0 : Int), (-2147483648 ≤ v0 ∧ v0 < 2147483648) → (v0 = zv0 J t) → tz_At l G M_X9_measure (tb_rm 1 0 0) none (tb_ZM G 0 0 (zQ n 0 (zqv (fun J' => zOf (zbut [10, 11, 12, 13]) J' J ∧ (∀ k, ¬ k = t → J' 10 k = J 10 k ∧ J' 11 k = J 11 k ∧ J' 12 k = J 12 k ∧ J' 13 k = J 13 k) ∧ J' 10 t = 1 + zs3 J t ∧ J' 11 t = J 11 t + zw3 J t ∧ J' 12 t = zd3 J t ∧ J' 13 t = zv3 J t))) (zX n 0 zN)) 0 0 n (zup (zup J 10 t 1) 12 t 1) 42 [some (.ref 6), some (zi t), none, none] (zi v0 :: zi t :: .ref 13 :: []) := by
    intro v0 hr_v0
    intro hj_42
    refine tz_aS (pc := 42) (z := t) dX9_measure_42 a_13 rfl (by omega) (by omega) ?_
    refine tz_iconst (pc := 43) dX9_measure_43 ?_
    refine tz_istore_n (pc := 44) (L2 := [_, _, _, _]) dX9_measure_44 rfl (by decide) rfl ?_
    refine tz_iload_n (pc := 45) dX9_measure_45 rfl rfl ?_
    refine tz_aload_n (pc := 46) dX9_measure_46 rfl rfl ?_
    refine tz_fR (pc := 47) dX9_measure_47 fl_X9_15 r_6_2 ?_
    refine tz_iload_n (pc := 50) dX9_measure_50 rfl rfl ?_
    refine tz_aL (pc := 51) (z := t) (v := 0) dX9_measure_51 a_8 rfl (by omega) ha (fun _ => ?_)
    refine tz_icmp_geT (pc := 52) (tgt := 140) (by decide) dX9_measure_52 (by decide) (by decide) (by decide) ?_
    exact tz_vret (pc := 140) dX9_measure_140 rfl (Nat.le_of_ble_eq_true rfl) (Nat.le_of_ble_eq_true rfl) ⟨Nat.le_refl _, Nat.le_add_right _ _⟩ ⟨rfl, ⟨(zOf.up rfl (zOf.up rfl (zOf.up rfl zOf.rf))), fun k hk => ⟨by simp [zup, hk], by simp [zup, hk], by simp [zup, hk], by simp [zup, hk]⟩, (Eq.trans (b := 1) (by simp [zup]) (by simp [zs3, ha] <;> omega)), (Eq.trans (b := (J 11 t)) rfl (by simp [zw3, ha] <;> omega)), (Eq.trans (b := 1) (by simp [zup]) (by simp [zd3, ha] <;> omega)), (Eq.trans (b := v0) (by simp [zup]) (by simp [zv3, ha, hj_42]))⟩⟩
  refine tz_if_ge (pc := 25) (tgt := 41) dX9_measure_25 (by decide) (by omega) (fun h_25 => ?_) (fun h_25 => ?_)
  · refine tz_iconst (pc := 41) dX9_measure_41 ?_
    exact join42 0 (by decide) (by unfold zv0; split <;> first | rfl | omega)
  · refine tz_iconst (pc := 28) dX9_measure_28 ?_
    refine tz_aload_n (pc := 29) dX9_measure_29 rfl rfl ?_
    refine tz_fR (pc := 30) dX9_measure_30 fl_X9_11 r_6_1 ?_
    refine tz_iload_n (pc := 33) dX9_measure_33 rfl rfl ?_
    refine tz_aL (pc := 34) (z := t) (v := (J 7 t)) dX9_measure_34 a_7 rfl (by omega) rfl (fun r_34 => ?_)
    refine tz_iconst (pc := 35) dX9_measure_35 ?_
    refine tz_ixor (pc := 36) (v := zxor (J 7 t) (-1)) dX9_measure_36 rfl ?_
    refine tz_ishl (pc := 37) (v := zshl 1 (zxor (J 7 t) (-1))) dX9_measure_37 rfl ?_
    refine tz_goto (pc := 38) (tgt := 42) dX9_measure_38 (by decide) ?_
    exact join42 (zshl 1 (zxor (J 7 t) (-1))) (zshl_rg _ _) (by unfold zv0; split <;> first | rfl | omega)

set_option maxHeartbeats 4000000 in
set_option maxRecDepth 100000 in
theorem c_meas1 {l : Launch} {G : tb_G} (hl : l.stackTraces = false) (n : Nat) (J : zJ) (t : Int) (hr_t : -2147483648 ≤ t ∧ t < 2147483648)  (h0 : 0 ≤ t ∧ t < 401) (hw : 0 ≤ J 11 t ∧ J 11 t ≤ 9) (hp : ∀ i, 0 ≤ i → i < J 8 t → (0 ≤ J 9 (t * 3 + i) ∧ J 9 (t * 3 + i) < t) ∧ (0 ≤ J 10 (J 9 (t * 3 + i)) ∧ J 10 (J 9 (t * 3 + i)) ≤ 364) ∧ (0 ≤ J 11 (J 9 (t * 3 + i)) ∧ J 11 (J 9 (t * 3 + i)) ≤ 4000) ∧ 0 ≤ J 12 (J 9 (t * 3 + i)) ∧ J 12 (J 9 (t * 3 + i)) ≤ 6) (ha : J 8 t = 1) : tz_Ok l G M_X9_measure 1 0 0 [.ref 6, zi t] n J (zqv (fun J' => zOf (zbut [10, 11, 12, 13]) J' J ∧ (∀ k, ¬ k = t → J' 10 k = J 10 k ∧ J' 11 k = J 11 k ∧ J' 12 k = J 12 k ∧ J' 13 k = J 13 k) ∧ J' 10 t = 1 + zs3 J t ∧ J' 11 t = J 11 t + zw3 J t ∧ J' 12 t = zd3 J t ∧ J' 13 t = zv3 J t)) zN := by
  refine tz_Ok.of hl (by decide +kernel) rfl (tb_c1 rfl) (Nat.le_of_ble_eq_true rfl) ?_
  show tz_At l G M_X9_measure (tb_rm 1 0 0) none (tb_ZM G 0 0 (zQ n 0 (zqv (fun J' => zOf (zbut [10, 11, 12, 13]) J' J ∧ (∀ k, ¬ k = t → J' 10 k = J 10 k ∧ J' 11 k = J 11 k ∧ J' 12 k = J 12 k ∧ J' 13 k = J 13 k) ∧ J' 10 t = 1 + zs3 J t ∧ J' 11 t = J 11 t + zw3 J t ∧ J' 12 t = zd3 J t ∧ J' 13 t = zv3 J t))) (zX n 0 zN)) 0 0 n J 0 [some (.ref 6), some (zi t), none, none] []
  have hp0 := hp 0 (by decide) (by omega)
  refine tz_aload_n (pc := 0) dX9_measure_0 rfl rfl ?_
  refine tz_fR (pc := 1) dX9_measure_1 fl_X9_21 r_6_4 ?_
  refine tz_iload_n (pc := 4) dX9_measure_4 rfl rfl ?_
  refine tz_iconst (pc := 5) dX9_measure_5 ?_
  refine tz_aS (pc := 6) (z := t) dX9_measure_6 a_10 rfl (by omega) (by decide) ?_
  refine tz_aload_n (pc := 7) dX9_measure_7 rfl rfl ?_
  refine tz_fR (pc := 8) dX9_measure_8 fl_X9_27 r_6_6 ?_
  refine tz_iload_n (pc := 11) dX9_measure_11 rfl rfl ?_
  refine tz_iconst (pc := 12) dX9_measure_12 ?_
  refine tz_aS (pc := 13) (z := t) dX9_measure_13 a_12 rfl (by omega) (by decide) ?_
  refine tz_aload_n (pc := 14) dX9_measure_14 rfl rfl ?_
  refine tz_fR (pc := 15) dX9_measure_15 fl_X9_30 r_6_7 ?_
  refine tz_iload_n (pc := 18) dX9_measure_18 rfl rfl ?_
  refine tz_aload_n (pc := 19) dX9_measure_19 rfl rfl ?_
  refine tz_fR (pc := 20) dX9_measure_20 fl_X9_11 r_6_1 ?_
  refine tz_iload_n (pc := 23) dX9_measure_23 rfl rfl ?_
  refine tz_aL (pc := 24) (z := t) (v := (J 7 t)) dX9_measure_24 a_7 rfl (by omega) rfl (fun r_24 => ?_)
  have join42 : ∀ (v0 : Int), (-2147483648 ≤ v0 ∧ v0 < 2147483648) → (v0 = zv0 J t) → tz_At l G M_X9_measure (tb_rm 1 0 0) none (tb_ZM G 0 0 (zQ n 0 (zqv (fun J' => zOf (zbut [10, 11, 12, 13]) J' J ∧ (∀ k, ¬ k = t → J' 10 k = J 10 k ∧ J' 11 k = J 11 k ∧ J' 12 k = J 12 k ∧ J' 13 k = J 13 k) ∧ J' 10 t = 1 + zs3 J t ∧ J' 11 t = J 11 t + zw3 J t ∧ J' 12 t = zd3 J t ∧ J' 13 t = zv3 J t))) (zX n 0 zN)) 0 0 n (zup (zup J 10 t 1) 12 t 1) 42 [some (.ref 6), some (zi t), none, none] (zi v0 :: zi t :: .ref 13 :: []) := by
    intro v0 hr_v0
    intro hj_42
    refine tz_aS (pc := 42) (z := t) dX9_measure_42 a_13 rfl (by omega) (by omega) ?_
    refine tz_iconst (pc := 43) dX9_measure_43 ?_
    refine tz_istore_n (pc := 44) (L2 := [_, _, _, _]) dX9_measure_44 rfl (by decide) rfl ?_
    refine tz_iload_n (pc := 45) dX9_measure_45 rfl rfl ?_
    refine tz_aload_n (pc := 46) dX9_measure_46 rfl rfl ?_
    refine tz_fR (pc := 47) dX9_measure_47 fl_X9_15 r_6_2 ?_
    refine tz_iload_n (pc := 50) dX9_measure_50 rfl rfl ?_
    refine tz_aL (pc := 51) (z := t) (v := 1) dX9_measure_51 a_8 rfl (by omega) ha (fun _ => ?_)
    refine tz_icmp_geF (pc := 52) (tgt := 140) (by decide) dX9_measure_52 (by decide) (by decide) (by decide) ?_
    refine tz_aload_n (pc := 55) dX9_measure_55 rfl rfl ?_
    refine tz_fR (pc := 56) dX9_measure_56 fl_X9_18 r_6_3 ?_
    refine tz_iload_n (pc := 59) dX9_measure_59 rfl rfl ?_
    refine tz_iconst (pc := 60) dX9_measure_60 ?_
    refine tz_imul (pc := 61) (v := t * 3) dX9_measure_61 rfl ?_
    refine tz_iload_n (pc := 62) dX9_measure_62 rfl rfl ?_
    refine tz_iadd (pc := 63) (v := (t * 3) + 0) dX9_measure_63 rfl ?_
    refine tz_aL (pc := 64) (z := ((t * 3) + 0)) (v := (J 9 ((t * 3) + 0))) dX9_measure_64 a_9 rfl (by omega) rfl (fun r_64 => ?_)
    refine tz_istore_n (pc := 65) (L2 := [_, _, _, _]) dX9_measure_65 rfl (by decide) rfl ?_
    refine tz_aload_n (pc := 66) dX9_measure_66 rfl rfl ?_
    refine tz_fR (pc := 67) dX9_measure_67 fl_X9_21 r_6_4 ?_
    refine tz_iload_n (pc := 70) dX9_measure_70 rfl rfl ?_
    refine tz_dup2 (pc := 71) dX9_measure_71 rfl rfl ?_
    refine tz_aL (pc := 72) (z := t) (v := 1) dX9_measure_72 a_10 rfl (by omega) (by simp [zup]) (fun _ => ?_)
    refine tz_aload_n (pc := 73) dX9_measure_73 rfl rfl ?_
    refine tz_fR (pc := 74) dX9_measure_74 fl_X9_21 r_6_4 ?_
    refine tz_iload_n (pc := 77) dX9_measure_77 rfl rfl ?_
    refine tz_aL (pc := 78) (z := (J 9 ((t * 3) + 0))) (v := (J 10 (J 9 ((t * 3) + 0)))) dX9_measure_78 a_10 rfl (by omega) (Eq.trans (show zup _ 10 t 1 10 (J 9 ((t * 3) + 0)) = _ from zup_ne (by omega)) rfl) (fun r_78 => ?_)
    refine tz_iadd (pc := 79) (v := 1 + (J 10 (J 9 ((t * 3) + 0)))) dX9_measure_79 rfl ?_
    refine tz_aS (pc := 80) (z := t) dX9_measure_80 a_10 rfl (by omega) (by omega) ?_
    refine tz_aload_n (pc := 81) dX9_measure_81 rfl rfl ?_
    refine tz_fR (pc := 82) dX9_measure_82 fl_X9_24 r_6_5 ?_
    refine tz_iload_n (pc := 85) dX9_measure_85 rfl rfl ?_
    refine tz_dup2 (pc := 86) dX9_measure_86 rfl rfl ?_
    refine tz_aL (pc := 87) (z := t) (v := (J 11 t)) dX9_measure_87 a_11 rfl (by omega) rfl (fun r_87 => ?_)
    refine tz_aload_n (pc := 88) dX9_measure_88 rfl rfl ?_
    refine tz_fR (pc := 89) dX9_measure_89 fl_X9_24 r_6_5 ?_
    refine tz_iload_n (pc := 92) dX9_measure_92 rfl rfl ?_
    refine tz_aL (pc := 93) (z := (J 9 ((t * 3) + 0))) (v := (J 11 (J 9 ((t * 3) + 0)))) dX9_measure_93 a_11 rfl (by omega) rfl (fun r_93 => ?_)
    refine tz_iadd (pc := 94) (v := (J 11 t) + (J 11 (J 9 ((t * 3) + 0)))) dX9_measure_94 rfl ?_
    refine tz_aS (pc := 95) (z := t) dX9_measure_95 a_11 rfl (by omega) (by omega) ?_
    refine tz_aload_n (pc := 96) dX9_measure_96 rfl rfl ?_
    refine tz_fR (pc := 97) dX9_measure_97 fl_X9_27 r_6_6 ?_
    refine tz_iload_n (pc := 100) dX9_measure_100 rfl rfl ?_
    refine tz_aload_n (pc := 101) dX9_measure_101 rfl rfl ?_
    refine tz_fR (pc := 102) dX9_measure_102 fl_X9_27 r_6_6 ?_
    refine tz_iload_n (pc := 105) dX9_measure_105 rfl rfl ?_
    refine tz_aL (pc := 106) (z := t) (v := 1) dX9_measure_106 a_12 rfl (by omega) (by simp [zup]) (fun _ => ?_)
    refine tz_aload_n (pc := 107) dX9_measure_107 rfl rfl ?_
    refine tz_fR (pc := 108) dX9_measure_108 fl_X9_27 r_6_6 ?_
    refine tz_iload_n (pc := 111) dX9_measure_111 rfl rfl ?_
    refine tz_aL (pc := 112) (z := (J 9 ((t * 3) + 0))) (v := (J 12 (J 9 ((t * 3) + 0)))) dX9_measure_112 a_12 rfl (by omega) (Eq.trans (show zup _ 12 t 1 12 (J 9 ((t * 3) + 0)) = _ from zup_ne (by omega)) rfl) (fun r_112 => ?_)
    refine tz_iconst (pc := 113) dX9_measure_113 ?_
    refine tz_iadd (pc := 114) (v := (J 12 (J 9 ((t * 3) + 0))) + 1) dX9_measure_114 rfl ?_
    have hm_115 := zmax_le 1 ((J 12 (J 9 ((t * 3) + 0))) + 1)
    refine tz_mx (pc := 115) (v := zmax 1 ((J 12 (J 9 ((t * 3) + 0))) + 1)) dX9_measure_115 ml_X9_86 (Nat.le_of_ble_eq_true rfl) (Nat.le_of_ble_eq_true rfl) (Nat.le_of_ble_eq_true rfl) (Nat.le_of_ble_eq_true rfl) (by decide) (by omega) rfl ?_
    refine tz_aS (pc := 118) (z := t) dX9_measure_118 a_12 rfl (by omega) (by omega) ?_
    refine tz_aload_n (pc := 119) dX9_measure_119 rfl rfl ?_
    refine tz_fR (pc := 120) dX9_measure_120 fl_X9_30 r_6_7 ?_
    refine tz_iload_n (pc := 123) dX9_measure_123 rfl rfl ?_
    refine tz_dup2 (pc := 124) dX9_measure_124 rfl rfl ?_
    refine tz_aL (pc := 125) (z := t) (v := v0) dX9_measure_125 a_13 rfl (by omega) (by simp [zup]) (fun r_125 => ?_)
    refine tz_aload_n (pc := 126) dX9_measure_126 rfl rfl ?_
    refine tz_fR (pc := 127) dX9_measure_127 fl_X9_30 r_6_7 ?_
    refine tz_iload_n (pc := 130) dX9_measure_130 rfl rfl ?_
    refine tz_aL (pc := 131) (z := (J 9 ((t * 3) + 0))) (v := (J 13 (J 9 ((t * 3) + 0)))) dX9_measure_131 a_13 rfl (by omega) (Eq.trans (show zup _ 13 t v0 13 (J 9 ((t * 3) + 0)) = _ from zup_ne (by omega)) rfl) (fun r_131 => ?_)
    refine tz_ior (pc := 132) (v := zor v0 (J 13 (J 9 ((t * 3) + 0)))) dX9_measure_132 rfl ?_
    refine tz_aS (pc := 133) (z := t) dX9_measure_133 a_13 rfl (by omega) (zor_rg _ _) ?_
    refine tz_iinc (pc := 134) (z := 1) (L2 := [_, _, _, _]) dX9_measure_134 rfl (by decide) rfl ?_
    refine tz_goto (pc := 137) (tgt := 45) dX9_measure_137 (by decide) ?_
    refine tz_iload_n (pc := 45) dX9_measure_45 rfl rfl ?_
    refine tz_aload_n (pc := 46) dX9_measure_46 rfl rfl ?_
    refine tz_fR (pc := 47) dX9_measure_47 fl_X9_15 r_6_2 ?_
    refine tz_iload_n (pc := 50) dX9_measure_50 rfl rfl ?_
    refine tz_aL (pc := 51) (z := t) (v := 1) dX9_measure_51 a_8 rfl (by omega) ha (fun _ => ?_)
    refine tz_icmp_geT (pc := 52) (tgt := 140) (by decide) dX9_measure_52 (by decide) (by decide) (by decide) ?_
    exact tz_vret (pc := 140) dX9_measure_140 rfl (Nat.le_of_ble_eq_true rfl) (Nat.le_of_ble_eq_true rfl) ⟨Nat.le_refl _, Nat.le_add_right _ _⟩ ⟨rfl, ⟨(zOf.up rfl (zOf.up rfl (zOf.up rfl (zOf.up rfl (zOf.up rfl (zOf.up rfl (zOf.up rfl zOf.rf))))))), fun k hk => ⟨by simp [zup, hk], by simp [zup, hk], by simp [zup, hk], by simp [zup, hk]⟩, (Eq.trans (b := (1 + (J 10 (J 9 ((t * 3) + 0))))) (by simp [zup]) (by simp [zs3, ha] <;> omega)), (Eq.trans (b := ((J 11 t) + (J 11 (J 9 ((t * 3) + 0))))) (by simp [zup]) (by simp [zw3, ha] <;> omega)), (Eq.trans (b := (zmax 1 ((J 12 (J 9 ((t * 3) + 0))) + 1))) (by simp [zup]) (by simp [zd3, ha] <;> omega)), (Eq.trans (b := (zor v0 (J 13 (J 9 ((t * 3) + 0))))) (by simp [zup]) (by simp [zv3, ha, hj_42]))⟩⟩
  refine tz_if_ge (pc := 25) (tgt := 41) dX9_measure_25 (by decide) (by omega) (fun h_25 => ?_) (fun h_25 => ?_)
  · refine tz_iconst (pc := 41) dX9_measure_41 ?_
    exact join42 0 (by decide) (by unfold zv0; split <;> first | rfl | omega)
  · refine tz_iconst (pc := 28) dX9_measure_28 ?_
    refine tz_aload_n (pc := 29) dX9_measure_29 rfl rfl ?_
    refine tz_fR (pc := 30) dX9_measure_30 fl_X9_11 r_6_1 ?_
    refine tz_iload_n (pc := 33) dX9_measure_33 rfl rfl ?_
    refine tz_aL (pc := 34) (z := t) (v := (J 7 t)) dX9_measure_34 a_7 rfl (by omega) rfl (fun r_34 => ?_)
    refine tz_iconst (pc := 35) dX9_measure_35 ?_
    refine tz_ixor (pc := 36) (v := zxor (J 7 t) (-1)) dX9_measure_36 rfl ?_
    refine tz_ishl (pc := 37) (v := zshl 1 (zxor (J 7 t) (-1))) dX9_measure_37 rfl ?_
    refine tz_goto (pc := 38) (tgt := 42) dX9_measure_38 (by decide) ?_
    exact join42 (zshl 1 (zxor (J 7 t) (-1))) (zshl_rg _ _) (by unfold zv0; split <;> first | rfl | omega)

set_option maxHeartbeats 4000000 in
set_option maxRecDepth 100000 in
theorem c_meas2 {l : Launch} {G : tb_G} (hl : l.stackTraces = false) (n : Nat) (J : zJ) (t : Int) (hr_t : -2147483648 ≤ t ∧ t < 2147483648)  (h0 : 0 ≤ t ∧ t < 401) (hw : 0 ≤ J 11 t ∧ J 11 t ≤ 9) (hp : ∀ i, 0 ≤ i → i < J 8 t → (0 ≤ J 9 (t * 3 + i) ∧ J 9 (t * 3 + i) < t) ∧ (0 ≤ J 10 (J 9 (t * 3 + i)) ∧ J 10 (J 9 (t * 3 + i)) ≤ 364) ∧ (0 ≤ J 11 (J 9 (t * 3 + i)) ∧ J 11 (J 9 (t * 3 + i)) ≤ 4000) ∧ 0 ≤ J 12 (J 9 (t * 3 + i)) ∧ J 12 (J 9 (t * 3 + i)) ≤ 6) (ha : J 8 t = 2) : tz_Ok l G M_X9_measure 1 0 0 [.ref 6, zi t] n J (zqv (fun J' => zOf (zbut [10, 11, 12, 13]) J' J ∧ (∀ k, ¬ k = t → J' 10 k = J 10 k ∧ J' 11 k = J 11 k ∧ J' 12 k = J 12 k ∧ J' 13 k = J 13 k) ∧ J' 10 t = 1 + zs3 J t ∧ J' 11 t = J 11 t + zw3 J t ∧ J' 12 t = zd3 J t ∧ J' 13 t = zv3 J t)) zN := by
  refine tz_Ok.of hl (by decide +kernel) rfl (tb_c1 rfl) (Nat.le_of_ble_eq_true rfl) ?_
  show tz_At l G M_X9_measure (tb_rm 1 0 0) none (tb_ZM G 0 0 (zQ n 0 (zqv (fun J' => zOf (zbut [10, 11, 12, 13]) J' J ∧ (∀ k, ¬ k = t → J' 10 k = J 10 k ∧ J' 11 k = J 11 k ∧ J' 12 k = J 12 k ∧ J' 13 k = J 13 k) ∧ J' 10 t = 1 + zs3 J t ∧ J' 11 t = J 11 t + zw3 J t ∧ J' 12 t = zd3 J t ∧ J' 13 t = zv3 J t))) (zX n 0 zN)) 0 0 n J 0 [some (.ref 6), some (zi t), none, none] []
  have hp0 := hp 0 (by decide) (by omega)
  have hp1 := hp 1 (by decide) (by omega)
  refine tz_aload_n (pc := 0) dX9_measure_0 rfl rfl ?_
  refine tz_fR (pc := 1) dX9_measure_1 fl_X9_21 r_6_4 ?_
  refine tz_iload_n (pc := 4) dX9_measure_4 rfl rfl ?_
  refine tz_iconst (pc := 5) dX9_measure_5 ?_
  refine tz_aS (pc := 6) (z := t) dX9_measure_6 a_10 rfl (by omega) (by decide) ?_
  refine tz_aload_n (pc := 7) dX9_measure_7 rfl rfl ?_
  refine tz_fR (pc := 8) dX9_measure_8 fl_X9_27 r_6_6 ?_
  refine tz_iload_n (pc := 11) dX9_measure_11 rfl rfl ?_
  refine tz_iconst (pc := 12) dX9_measure_12 ?_
  refine tz_aS (pc := 13) (z := t) dX9_measure_13 a_12 rfl (by omega) (by decide) ?_
  refine tz_aload_n (pc := 14) dX9_measure_14 rfl rfl ?_
  refine tz_fR (pc := 15) dX9_measure_15 fl_X9_30 r_6_7 ?_
  refine tz_iload_n (pc := 18) dX9_measure_18 rfl rfl ?_
  refine tz_aload_n (pc := 19) dX9_measure_19 rfl rfl ?_
  refine tz_fR (pc := 20) dX9_measure_20 fl_X9_11 r_6_1 ?_
  refine tz_iload_n (pc := 23) dX9_measure_23 rfl rfl ?_
  refine tz_aL (pc := 24) (z := t) (v := (J 7 t)) dX9_measure_24 a_7 rfl (by omega) rfl (fun r_24 => ?_)
  have join42 : ∀ (v0 : Int), (-2147483648 ≤ v0 ∧ v0 < 2147483648) → (v0 = zv0 J t) → tz_At l G M_X9_measure (tb_rm 1 0 0) none (tb_ZM G 0 0 (zQ n 0 (zqv (fun J' => zOf (zbut [10, 11, 12, 13]) J' J ∧ (∀ k, ¬ k = t → J' 10 k = J 10 k ∧ J' 11 k = J 11 k ∧ J' 12 k = J 12 k ∧ J' 13 k = J 13 k) ∧ J' 10 t = 1 + zs3 J t ∧ J' 11 t = J 11 t + zw3 J t ∧ J' 12 t = zd3 J t ∧ J' 13 t = zv3 J t))) (zX n 0 zN)) 0 0 n (zup (zup J 10 t 1) 12 t 1) 42 [some (.ref 6), some (zi t), none, none] (zi v0 :: zi t :: .ref 13 :: []) := by
    intro v0 hr_v0
    intro hj_42
    refine tz_aS (pc := 42) (z := t) dX9_measure_42 a_13 rfl (by omega) (by omega) ?_
    refine tz_iconst (pc := 43) dX9_measure_43 ?_
    refine tz_istore_n (pc := 44) (L2 := [_, _, _, _]) dX9_measure_44 rfl (by decide) rfl ?_
    refine tz_iload_n (pc := 45) dX9_measure_45 rfl rfl ?_
    refine tz_aload_n (pc := 46) dX9_measure_46 rfl rfl ?_
    refine tz_fR (pc := 47) dX9_measure_47 fl_X9_15 r_6_2 ?_
    refine tz_iload_n (pc := 50) dX9_measure_50 rfl rfl ?_
    refine tz_aL (pc := 51) (z := t) (v := 2) dX9_measure_51 a_8 rfl (by omega) ha (fun _ => ?_)
    refine tz_icmp_geF (pc := 52) (tgt := 140) (by decide) dX9_measure_52 (by decide) (by decide) (by decide) ?_
    refine tz_aload_n (pc := 55) dX9_measure_55 rfl rfl ?_
    refine tz_fR (pc := 56) dX9_measure_56 fl_X9_18 r_6_3 ?_
    refine tz_iload_n (pc := 59) dX9_measure_59 rfl rfl ?_
    refine tz_iconst (pc := 60) dX9_measure_60 ?_
    refine tz_imul (pc := 61) (v := t * 3) dX9_measure_61 rfl ?_
    refine tz_iload_n (pc := 62) dX9_measure_62 rfl rfl ?_
    refine tz_iadd (pc := 63) (v := (t * 3) + 0) dX9_measure_63 rfl ?_
    refine tz_aL (pc := 64) (z := ((t * 3) + 0)) (v := (J 9 ((t * 3) + 0))) dX9_measure_64 a_9 rfl (by omega) rfl (fun r_64 => ?_)
    refine tz_istore_n (pc := 65) (L2 := [_, _, _, _]) dX9_measure_65 rfl (by decide) rfl ?_
    refine tz_aload_n (pc := 66) dX9_measure_66 rfl rfl ?_
    refine tz_fR (pc := 67) dX9_measure_67 fl_X9_21 r_6_4 ?_
    refine tz_iload_n (pc := 70) dX9_measure_70 rfl rfl ?_
    refine tz_dup2 (pc := 71) dX9_measure_71 rfl rfl ?_
    refine tz_aL (pc := 72) (z := t) (v := 1) dX9_measure_72 a_10 rfl (by omega) (by simp [zup]) (fun _ => ?_)
    refine tz_aload_n (pc := 73) dX9_measure_73 rfl rfl ?_
    refine tz_fR (pc := 74) dX9_measure_74 fl_X9_21 r_6_4 ?_
    refine tz_iload_n (pc := 77) dX9_measure_77 rfl rfl ?_
    refine tz_aL (pc := 78) (z := (J 9 ((t * 3) + 0))) (v := (J 10 (J 9 ((t * 3) + 0)))) dX9_measure_78 a_10 rfl (by omega) (Eq.trans (show zup _ 10 t 1 10 (J 9 ((t * 3) + 0)) = _ from zup_ne (by omega)) rfl) (fun r_78 => ?_)
    refine tz_iadd (pc := 79) (v := 1 + (J 10 (J 9 ((t * 3) + 0)))) dX9_measure_79 rfl ?_
    refine tz_aS (pc := 80) (z := t) dX9_measure_80 a_10 rfl (by omega) (by omega) ?_
    refine tz_aload_n (pc := 81) dX9_measure_81 rfl rfl ?_
    refine tz_fR (pc := 82) dX9_measure_82 fl_X9_24 r_6_5 ?_
    refine tz_iload_n (pc := 85) dX9_measure_85 rfl rfl ?_
    refine tz_dup2 (pc := 86) dX9_measure_86 rfl rfl ?_
    refine tz_aL (pc := 87) (z := t) (v := (J 11 t)) dX9_measure_87 a_11 rfl (by omega) rfl (fun r_87 => ?_)
    refine tz_aload_n (pc := 88) dX9_measure_88 rfl rfl ?_
    refine tz_fR (pc := 89) dX9_measure_89 fl_X9_24 r_6_5 ?_
    refine tz_iload_n (pc := 92) dX9_measure_92 rfl rfl ?_
    refine tz_aL (pc := 93) (z := (J 9 ((t * 3) + 0))) (v := (J 11 (J 9 ((t * 3) + 0)))) dX9_measure_93 a_11 rfl (by omega) rfl (fun r_93 => ?_)
    refine tz_iadd (pc := 94) (v := (J 11 t) + (J 11 (J 9 ((t * 3) + 0)))) dX9_measure_94 rfl ?_
    refine tz_aS (pc := 95) (z := t) dX9_measure_95 a_11 rfl (by omega) (by omega) ?_
    refine tz_aload_n (pc := 96) dX9_measure_96 rfl rfl ?_
    refine tz_fR (pc := 97) dX9_measure_97 fl_X9_27 r_6_6 ?_
    refine tz_iload_n (pc := 100) dX9_measure_100 rfl rfl ?_
    refine tz_aload_n (pc := 101) dX9_measure_101 rfl rfl ?_
    refine tz_fR (pc := 102) dX9_measure_102 fl_X9_27 r_6_6 ?_
    refine tz_iload_n (pc := 105) dX9_measure_105 rfl rfl ?_
    refine tz_aL (pc := 106) (z := t) (v := 1) dX9_measure_106 a_12 rfl (by omega) (by simp [zup]) (fun _ => ?_)
    refine tz_aload_n (pc := 107) dX9_measure_107 rfl rfl ?_
    refine tz_fR (pc := 108) dX9_measure_108 fl_X9_27 r_6_6 ?_
    refine tz_iload_n (pc := 111) dX9_measure_111 rfl rfl ?_
    refine tz_aL (pc := 112) (z := (J 9 ((t * 3) + 0))) (v := (J 12 (J 9 ((t * 3) + 0)))) dX9_measure_112 a_12 rfl (by omega) (Eq.trans (show zup _ 12 t 1 12 (J 9 ((t * 3) + 0)) = _ from zup_ne (by omega)) rfl) (fun r_112 => ?_)
    refine tz_iconst (pc := 113) dX9_measure_113 ?_
    refine tz_iadd (pc := 114) (v := (J 12 (J 9 ((t * 3) + 0))) + 1) dX9_measure_114 rfl ?_
    have hm_115 := zmax_le 1 ((J 12 (J 9 ((t * 3) + 0))) + 1)
    refine tz_mx (pc := 115) (v := zmax 1 ((J 12 (J 9 ((t * 3) + 0))) + 1)) dX9_measure_115 ml_X9_86 (Nat.le_of_ble_eq_true rfl) (Nat.le_of_ble_eq_true rfl) (Nat.le_of_ble_eq_true rfl) (Nat.le_of_ble_eq_true rfl) (by decide) (by omega) rfl ?_
    refine tz_aS (pc := 118) (z := t) dX9_measure_118 a_12 rfl (by omega) (by omega) ?_
    refine tz_aload_n (pc := 119) dX9_measure_119 rfl rfl ?_
    refine tz_fR (pc := 120) dX9_measure_120 fl_X9_30 r_6_7 ?_
    refine tz_iload_n (pc := 123) dX9_measure_123 rfl rfl ?_
    refine tz_dup2 (pc := 124) dX9_measure_124 rfl rfl ?_
    refine tz_aL (pc := 125) (z := t) (v := v0) dX9_measure_125 a_13 rfl (by omega) (by simp [zup]) (fun r_125 => ?_)
    refine tz_aload_n (pc := 126) dX9_measure_126 rfl rfl ?_
    refine tz_fR (pc := 127) dX9_measure_127 fl_X9_30 r_6_7 ?_
    refine tz_iload_n (pc := 130) dX9_measure_130 rfl rfl ?_
    refine tz_aL (pc := 131) (z := (J 9 ((t * 3) + 0))) (v := (J 13 (J 9 ((t * 3) + 0)))) dX9_measure_131 a_13 rfl (by omega) (Eq.trans (show zup _ 13 t v0 13 (J 9 ((t * 3) + 0)) = _ from zup_ne (by omega)) rfl) (fun r_131 => ?_)
    refine tz_ior (pc := 132) (v := zor v0 (J 13 (J 9 ((t * 3) + 0)))) dX9_measure_132 rfl ?_
    refine tz_aS (pc := 133) (z := t) dX9_measure_133 a_13 rfl (by omega) (zor_rg _ _) ?_
    refine tz_iinc (pc := 134) (z := 1) (L2 := [_, _, _, _]) dX9_measure_134 rfl (by decide) rfl ?_
    refine tz_goto (pc := 137) (tgt := 45) dX9_measure_137 (by decide) ?_
    refine tz_iload_n (pc := 45) dX9_measure_45 rfl rfl ?_
    refine tz_aload_n (pc := 46) dX9_measure_46 rfl rfl ?_
    refine tz_fR (pc := 47) dX9_measure_47 fl_X9_15 r_6_2 ?_
    refine tz_iload_n (pc := 50) dX9_measure_50 rfl rfl ?_
    refine tz_aL (pc := 51) (z := t) (v := 2) dX9_measure_51 a_8 rfl (by omega) ha (fun _ => ?_)
    refine tz_icmp_geF (pc := 52) (tgt := 140) (by decide) dX9_measure_52 (by decide) (by decide) (by decide) ?_
    refine tz_aload_n (pc := 55) dX9_measure_55 rfl rfl ?_
    refine tz_fR (pc := 56) dX9_measure_56 fl_X9_18 r_6_3 ?_
    refine tz_iload_n (pc := 59) dX9_measure_59 rfl rfl ?_
    refine tz_iconst (pc := 60) dX9_measure_60 ?_
    refine tz_imul (pc := 61) (v := t * 3) dX9_measure_61 rfl ?_
    refine tz_iload_n (pc := 62) dX9_measure_62 rfl rfl ?_
    refine tz_iadd (pc := 63) (v := (t * 3) + 1) dX9_measure_63 rfl ?_
    refine tz_aL (pc := 64) (z := ((t * 3) + 1)) (v := (J 9 ((t * 3) + 1))) dX9_measure_64 a_9 rfl (by omega) rfl (fun r_64 => ?_)
    refine tz_istore_n (pc := 65) (L2 := [_, _, _, _]) dX9_measure_65 rfl (by decide) rfl ?_
    refine tz_aload_n (pc := 66) dX9_measure_66 rfl rfl ?_
    refine tz_fR (pc := 67) dX9_measure_67 fl_X9_21 r_6_4 ?_
    refine tz_iload_n (pc := 70) dX9_measure_70 rfl rfl ?_
    refine tz_dup2 (pc := 71) dX9_measure_71 rfl rfl ?_
    refine tz_aL (pc := 72) (z := t) (v := (1 + (J 10 (J 9 ((t * 3) + 0))))) dX9_measure_72 a_10 rfl (by omega) (by simp [zup]) (fun r_72 => ?_)
    refine tz_aload_n (pc := 73) dX9_measure_73 rfl rfl ?_
    refine tz_fR (pc := 74) dX9_measure_74 fl_X9_21 r_6_4 ?_
    refine tz_iload_n (pc := 77) dX9_measure_77 rfl rfl ?_
    refine tz_aL (pc := 78) (z := (J 9 ((t * 3) + 1))) (v := (J 10 (J 9 ((t * 3) + 1)))) dX9_measure_78 a_10 rfl (by omega) (Eq.trans (show zup _ 10 t (1 + (J 10 (J 9 ((t * 3) + 0)))) 10 (J 9 ((t * 3) + 1)) = _ from zup_ne (by omega)) (Eq.trans (show zup _ 10 t 1 10 (J 9 ((t * 3) + 1)) = _ from zup_ne (by omega)) rfl)) (fun r_78 => ?_)
    refine tz_iadd (pc := 79) (v := (1 + (J 10 (J 9 ((t * 3) + 0)))) + (J 10 (J 9 ((t * 3) + 1)))) dX9_measure_79 rfl ?_
    refine tz_aS (pc := 80) (z := t) dX9_measure_80 a_10 rfl (by omega) (by omega) ?_
    refine tz_aload_n (pc := 81) dX9_measure_81 rfl rfl ?_
    refine tz_fR (pc := 82) dX9_measure_82 fl_X9_24 r_6_5 ?_
    refine tz_iload_n (pc := 85) dX9_measure_85 rfl rfl ?_
    refine tz_dup2 (pc := 86) dX9_measure_86 rfl rfl ?_
    refine tz_aL (pc := 87) (z := t) (v := ((J 11 t) + (J 11 (J 9 ((t * 3) + 0))))) dX9_measure_87 a_11 rfl (by omega) (by simp [zup]) (fun r_87 => ?_)
    refine tz_aload_n (pc := 88) dX9_measure_88 rfl rfl ?_
    refine tz_fR (pc := 89) dX9_measure_89 fl_X9_24 r_6_5 ?_
    refine tz_iload_n (pc := 92) dX9_measure_92 rfl rfl ?_
    refine tz_aL (pc := 93) (z := (J 9 ((t * 3) + 1))) (v := (J 11 (J 9 ((t * 3) + 1)))) dX9_measure_93 a_11 rfl (by omega) (Eq.trans (show zup _ 11 t ((J 11 t) + (J 11 (J 9 ((t * 3) + 0)))) 11 (J 9 ((t * 3) + 1)) = _ from zup_ne (by omega)) rfl) (fun r_93 => ?_)
    refine tz_iadd (pc := 94) (v := ((J 11 t) + (J 11 (J 9 ((t * 3) + 0)))) + (J 11 (J 9 ((t * 3) + 1)))) dX9_measure_94 rfl ?_
    refine tz_aS (pc := 95) (z := t) dX9_measure_95 a_11 rfl (by omega) (by omega) ?_
    refine tz_aload_n (pc := 96) dX9_measure_96 rfl rfl ?_
    refine tz_fR (pc := 97) dX9_measure_97 fl_X9_27 r_6_6 ?_
    refine tz_iload_n (pc := 100) dX9_measure_100 rfl rfl ?_
    refine tz_aload_n (pc := 101) dX9_measure_101 rfl rfl ?_
    refine tz_fR (pc := 102) dX9_measure_102 fl_X9_27 r_6_6 ?_
    refine tz_iload_n (pc := 105) dX9_measure_105 rfl rfl ?_
    refine tz_aL (pc := 106) (z := t) (v := (zmax 1 ((J 12 (J 9 ((t * 3) + 0))) + 1))) dX9_measure_106 a_12 rfl (by omega) (by simp [zup]) (fun r_106 => ?_)
    refine tz_aload_n (pc := 107) dX9_measure_107 rfl rfl ?_
    refine tz_fR (pc := 108) dX9_measure_108 fl_X9_27 r_6_6 ?_
    refine tz_iload_n (pc := 111) dX9_measure_111 rfl rfl ?_
    refine tz_aL (pc := 112) (z := (J 9 ((t * 3) + 1))) (v := (J 12 (J 9 ((t * 3) + 1)))) dX9_measure_112 a_12 rfl (by omega) (Eq.trans (show zup _ 12 t (zmax 1 ((J 12 (J 9 ((t * 3) + 0))) + 1)) 12 (J 9 ((t * 3) + 1)) = _ from zup_ne (by omega)) (Eq.trans (show zup _ 12 t 1 12 (J 9 ((t * 3) + 1)) = _ from zup_ne (by omega)) rfl)) (fun r_112 => ?_)
    refine tz_iconst (pc := 113) dX9_measure_113 ?_
    refine tz_iadd (pc := 114) (v := (J 12 (J 9 ((t * 3) + 1))) + 1) dX9_measure_114 rfl ?_
    have hm_115 := zmax_le (zmax 1 ((J 12 (J 9 ((t * 3) + 0))) + 1)) ((J 12 (J 9 ((t * 3) + 1))) + 1)
    refine tz_mx (pc := 115) (v := zmax (zmax 1 ((J 12 (J 9 ((t * 3) + 0))) + 1)) ((J 12 (J 9 ((t * 3) + 1))) + 1)) dX9_measure_115 ml_X9_86 (Nat.le_of_ble_eq_true rfl) (Nat.le_of_ble_eq_true rfl) (Nat.le_of_ble_eq_true rfl) (Nat.le_of_ble_eq_true rfl) (by omega) (by omega) rfl ?_
    refine tz_aS (pc := 118) (z := t) dX9_measure_118 a_12 rfl (by omega) (by omega) ?_
    refine tz_aload_n (pc := 119) dX9_measure_119 rfl rfl ?_
    refine tz_fR (pc := 120) dX9_measure_120 fl_X9_30 r_6_7 ?_
    refine tz_iload_n (pc := 123) dX9_measure_123 rfl rfl ?_
    refine tz_dup2 (pc := 124) dX9_measure_124 rfl rfl ?_
    refine tz_aL (pc := 125) (z := t) (v := (zor v0 (J 13 (J 9 ((t * 3) + 0))))) dX9_measure_125 a_13 rfl (by omega) (by simp [zup]) (fun r_125 => ?_)
    refine tz_aload_n (pc := 126) dX9_measure_126 rfl rfl ?_
    refine tz_fR (pc := 127) dX9_measure_127 fl_X9_30 r_6_7 ?_
    refine tz_iload_n (pc := 130) dX9_measure_130 rfl rfl ?_
    refine tz_aL (pc := 131) (z := (J 9 ((t * 3) + 1))) (v := (J 13 (J 9 ((t * 3) + 1)))) dX9_measure_131 a_13 rfl (by omega) (Eq.trans (show zup _ 13 t (zor v0 (J 13 (J 9 ((t * 3) + 0)))) 13 (J 9 ((t * 3) + 1)) = _ from zup_ne (by omega)) (Eq.trans (show zup _ 13 t v0 13 (J 9 ((t * 3) + 1)) = _ from zup_ne (by omega)) rfl)) (fun r_131 => ?_)
    refine tz_ior (pc := 132) (v := zor (zor v0 (J 13 (J 9 ((t * 3) + 0)))) (J 13 (J 9 ((t * 3) + 1)))) dX9_measure_132 rfl ?_
    refine tz_aS (pc := 133) (z := t) dX9_measure_133 a_13 rfl (by omega) (zor_rg _ _) ?_
    refine tz_iinc (pc := 134) (z := 2) (L2 := [_, _, _, _]) dX9_measure_134 rfl (by decide) rfl ?_
    refine tz_goto (pc := 137) (tgt := 45) dX9_measure_137 (by decide) ?_
    refine tz_iload_n (pc := 45) dX9_measure_45 rfl rfl ?_
    refine tz_aload_n (pc := 46) dX9_measure_46 rfl rfl ?_
    refine tz_fR (pc := 47) dX9_measure_47 fl_X9_15 r_6_2 ?_
    refine tz_iload_n (pc := 50) dX9_measure_50 rfl rfl ?_
    refine tz_aL (pc := 51) (z := t) (v := 2) dX9_measure_51 a_8 rfl (by omega) ha (fun _ => ?_)
    refine tz_icmp_geT (pc := 52) (tgt := 140) (by decide) dX9_measure_52 (by decide) (by decide) (by decide) ?_
    exact tz_vret (pc := 140) dX9_measure_140 rfl (Nat.le_of_ble_eq_true rfl) (Nat.le_of_ble_eq_true rfl) ⟨Nat.le_refl _, Nat.le_add_right _ _⟩ ⟨rfl, ⟨(zOf.up rfl (zOf.up rfl (zOf.up rfl (zOf.up rfl (zOf.up rfl (zOf.up rfl (zOf.up rfl (zOf.up rfl (zOf.up rfl (zOf.up rfl (zOf.up rfl zOf.rf))))))))))), fun k hk => ⟨by simp [zup, hk], by simp [zup, hk], by simp [zup, hk], by simp [zup, hk]⟩, (Eq.trans (b := ((1 + (J 10 (J 9 ((t * 3) + 0)))) + (J 10 (J 9 ((t * 3) + 1))))) (by simp [zup]) (by simp [zs3, ha] <;> omega)), (Eq.trans (b := (((J 11 t) + (J 11 (J 9 ((t * 3) + 0)))) + (J 11 (J 9 ((t * 3) + 1))))) (by simp [zup]) (by simp [zw3, ha] <;> omega)), (Eq.trans (b := (zmax (zmax 1 ((J 12 (J 9 ((t * 3) + 0))) + 1)) ((J 12 (J 9 ((t * 3) + 1))) + 1))) (by simp [zup]) (by simp [zd3, ha] <;> omega)), (Eq.trans (b := (zor (zor v0 (J 13 (J 9 ((t * 3) + 0)))) (J 13 (J 9 ((t * 3) + 1))))) (by simp [zup]) (by simp [zv3, ha, hj_42]))⟩⟩
  refine tz_if_ge (pc := 25) (tgt := 41) dX9_measure_25 (by decide) (by omega) (fun h_25 => ?_) (fun h_25 => ?_)
  · refine tz_iconst (pc := 41) dX9_measure_41 ?_
    exact join42 0 (by decide) (by unfold zv0; split <;> first | rfl | omega)
  · refine tz_iconst (pc := 28) dX9_measure_28 ?_
    refine tz_aload_n (pc := 29) dX9_measure_29 rfl rfl ?_
    refine tz_fR (pc := 30) dX9_measure_30 fl_X9_11 r_6_1 ?_
    refine tz_iload_n (pc := 33) dX9_measure_33 rfl rfl ?_
    refine tz_aL (pc := 34) (z := t) (v := (J 7 t)) dX9_measure_34 a_7 rfl (by omega) rfl (fun r_34 => ?_)
    refine tz_iconst (pc := 35) dX9_measure_35 ?_
    refine tz_ixor (pc := 36) (v := zxor (J 7 t) (-1)) dX9_measure_36 rfl ?_
    refine tz_ishl (pc := 37) (v := zshl 1 (zxor (J 7 t) (-1))) dX9_measure_37 rfl ?_
    refine tz_goto (pc := 38) (tgt := 42) dX9_measure_38 (by decide) ?_
    exact join42 (zshl 1 (zxor (J 7 t) (-1))) (zshl_rg _ _) (by unfold zv0; split <;> first | rfl | omega)

set_option maxHeartbeats 4000000 in
set_option maxRecDepth 100000 in
theorem c_meas3 {l : Launch} {G : tb_G} (hl : l.stackTraces = false) (n : Nat) (J : zJ) (t : Int) (hr_t : -2147483648 ≤ t ∧ t < 2147483648)  (h0 : 0 ≤ t ∧ t < 401) (hw : 0 ≤ J 11 t ∧ J 11 t ≤ 9) (hp : ∀ i, 0 ≤ i → i < J 8 t → (0 ≤ J 9 (t * 3 + i) ∧ J 9 (t * 3 + i) < t) ∧ (0 ≤ J 10 (J 9 (t * 3 + i)) ∧ J 10 (J 9 (t * 3 + i)) ≤ 364) ∧ (0 ≤ J 11 (J 9 (t * 3 + i)) ∧ J 11 (J 9 (t * 3 + i)) ≤ 4000) ∧ 0 ≤ J 12 (J 9 (t * 3 + i)) ∧ J 12 (J 9 (t * 3 + i)) ≤ 6) (ha : J 8 t = 3) : tz_Ok l G M_X9_measure 1 0 0 [.ref 6, zi t] n J (zqv (fun J' => zOf (zbut [10, 11, 12, 13]) J' J ∧ (∀ k, ¬ k = t → J' 10 k = J 10 k ∧ J' 11 k = J 11 k ∧ J' 12 k = J 12 k ∧ J' 13 k = J 13 k) ∧ J' 10 t = 1 + zs3 J t ∧ J' 11 t = J 11 t + zw3 J t ∧ J' 12 t = zd3 J t ∧ J' 13 t = zv3 J t)) zN := by
  refine tz_Ok.of hl (by decide +kernel) rfl (tb_c1 rfl) (Nat.le_of_ble_eq_true rfl) ?_
  show tz_At l G M_X9_measure (tb_rm 1 0 0) none (tb_ZM G 0 0 (zQ n 0 (zqv (fun J' => zOf (zbut [10, 11, 12, 13]) J' J ∧ (∀ k, ¬ k = t → J' 10 k = J 10 k ∧ J' 11 k = J 11 k ∧ J' 12 k = J 12 k ∧ J' 13 k = J 13 k) ∧ J' 10 t = 1 + zs3 J t ∧ J' 11 t = J 11 t + zw3 J t ∧ J' 12 t = zd3 J t ∧ J' 13 t = zv3 J t))) (zX n 0 zN)) 0 0 n J 0 [some (.ref 6), some (zi t), none, none] []
  have hp0 := hp 0 (by decide) (by omega)
  have hp1 := hp 1 (by decide) (by omega)
  have hp2 := hp 2 (by decide) (by omega)
  refine tz_aload_n (pc := 0) dX9_measure_0 rfl rfl ?_
  refine tz_fR (pc := 1) dX9_measure_1 fl_X9_21 r_6_4 ?_
  refine tz_iload_n (pc := 4) dX9_measure_4 rfl rfl ?_
  refine tz_iconst (pc := 5) dX9_measure_5 ?_
  refine tz_aS (pc := 6) (z := t) dX9_measure_6 a_10 rfl (by omega) (by decide) ?_
  refine tz_aload_n (pc := 7) dX9_measure_7 rfl rfl ?_
  refine tz_fR (pc := 8) dX9_measure_8 fl_X9_27 r_6_6 ?_
  refine tz_iload_n (pc := 11) dX9_measure_11 rfl rfl ?_
  refine tz_iconst (pc := 12) dX9_measure_12 ?_
  refine tz_aS (pc := 13) (z := t) dX9_measure_13 a_12 rfl (by omega) (by decide) ?_
  refine tz_aload_n (pc := 14) dX9_measure_14 rfl rfl ?_
  refine tz_fR (pc := 15) dX9_measure_15 fl_X9_30 r_6_7 ?_
  refine tz_iload_n (pc := 18) dX9_measure_18 rfl rfl ?_
  refine tz_aload_n (pc := 19) dX9_measure_19 rfl rfl ?_
  refine tz_fR (pc := 20) dX9_measure_20 fl_X9_11 r_6_1 ?_
  refine tz_iload_n (pc := 23) dX9_measure_23 rfl rfl ?_
  refine tz_aL (pc := 24) (z := t) (v := (J 7 t)) dX9_measure_24 a_7 rfl (by omega) rfl (fun r_24 => ?_)
  have join42 : ∀ (v0 : Int), (-2147483648 ≤ v0 ∧ v0 < 2147483648) → (v0 = zv0 J t) → tz_At l G M_X9_measure (tb_rm 1 0 0) none (tb_ZM G 0 0 (zQ n 0 (zqv (fun J' => zOf (zbut [10, 11, 12, 13]) J' J ∧ (∀ k, ¬ k = t → J' 10 k = J 10 k ∧ J' 11 k = J 11 k ∧ J' 12 k = J 12 k ∧ J' 13 k = J 13 k) ∧ J' 10 t = 1 + zs3 J t ∧ J' 11 t = J 11 t + zw3 J t ∧ J' 12 t = zd3 J t ∧ J' 13 t = zv3 J t))) (zX n 0 zN)) 0 0 n (zup (zup J 10 t 1) 12 t 1) 42 [some (.ref 6), some (zi t), none, none] (zi v0 :: zi t :: .ref 13 :: []) := by
    intro v0 hr_v0
    intro hj_42
    refine tz_aS (pc := 42) (z := t) dX9_measure_42 a_13 rfl (by omega) (by omega) ?_
    refine tz_iconst (pc := 43) dX9_measure_43 ?_
    refine tz_istore_n (pc := 44) (L2 := [_, _, _, _]) dX9_measure_44 rfl (by decide) rfl ?_
    refine tz_iload_n (pc := 45) dX9_measure_45 rfl rfl ?_
    refine tz_aload_n (pc := 46) dX9_measure_46 rfl rfl ?_
    refine tz_fR (pc := 47) dX9_measure_47 fl_X9_15 r_6_2 ?_
    refine tz_iload_n (pc := 50) dX9_measure_50 rfl rfl ?_
    refine tz_aL (pc := 51) (z := t) (v := 3) dX9_measure_51 a_8 rfl (by omega) ha (fun _ => ?_)
    refine tz_icmp_geF (pc := 52) (tgt := 140) (by decide) dX9_measure_52 (by decide) (by decide) (by decide) ?_
    refine tz_aload_n (pc := 55) dX9_measure_55 rfl rfl ?_
    refine tz_fR (pc := 56) dX9_measure_56 fl_X9_18 r_6_3 ?_
    refine tz_iload_n (pc := 59) dX9_measure_59 rfl rfl ?_
    refine tz_iconst (pc := 60) dX9_measure_60 ?_
    refine tz_imul (pc := 61) (v := t * 3) dX9_measure_61 rfl ?_
    refine tz_iload_n (pc := 62) dX9_measure_62 rfl rfl ?_
    refine tz_iadd (pc := 63) (v := (t * 3) + 0) dX9_measure_63 rfl ?_
    refine tz_aL (pc := 64) (z := ((t * 3) + 0)) (v := (J 9 ((t * 3) + 0))) dX9_measure_64 a_9 rfl (by omega) rfl (fun r_64 => ?_)
    refine tz_istore_n (pc := 65) (L2 := [_, _, _, _]) dX9_measure_65 rfl (by decide) rfl ?_
    refine tz_aload_n (pc := 66) dX9_measure_66 rfl rfl ?_
    refine tz_fR (pc := 67) dX9_measure_67 fl_X9_21 r_6_4 ?_
    refine tz_iload_n (pc := 70) dX9_measure_70 rfl rfl ?_
    refine tz_dup2 (pc := 71) dX9_measure_71 rfl rfl ?_
    refine tz_aL (pc := 72) (z := t) (v := 1) dX9_measure_72 a_10 rfl (by omega) (by simp [zup]) (fun _ => ?_)
    refine tz_aload_n (pc := 73) dX9_measure_73 rfl rfl ?_
    refine tz_fR (pc := 74) dX9_measure_74 fl_X9_21 r_6_4 ?_
    refine tz_iload_n (pc := 77) dX9_measure_77 rfl rfl ?_
    refine tz_aL (pc := 78) (z := (J 9 ((t * 3) + 0))) (v := (J 10 (J 9 ((t * 3) + 0)))) dX9_measure_78 a_10 rfl (by omega) (Eq.trans (show zup _ 10 t 1 10 (J 9 ((t * 3) + 0)) = _ from zup_ne (by omega)) rfl) (fun r_78 => ?_)
    refine tz_iadd (pc := 79) (v := 1 + (J 10 (J 9 ((t * 3) + 0)))) dX9_measure_79 rfl ?_
    refine tz_aS (pc := 80) (z := t) dX9_measure_80 a_10 rfl (by omega) (by omega) ?_
    refine tz_aload_n (pc := 81) dX9_measure_81 rfl rfl ?_
    refine tz_fR (pc := 82) dX9_measure_82 fl_X9_24 r_6_5 ?_
    refine tz_iload_n (pc := 85) dX9_measure_85 rfl rfl ?_
    refine tz_dup2 (pc := 86) dX9_measure_86 rfl rfl ?_
    refine tz_aL (pc := 87) (z := t) (v := (J 11 t)) dX9_measure_87 a_11 rfl (by omega) rfl (fun r_87 => ?_)
    refine tz_aload_n (pc := 88) dX9_measure_88 rfl rfl ?_
    refine tz_fR (pc := 89) dX9_measure_89 fl_X9_24 r_6_5 ?_
    refine tz_iload_n (pc := 92) dX9_measure_92 rfl rfl ?_
    refine tz_aL (pc := 93) (z := (J 9 ((t * 3) + 0))) (v := (J 11 (J 9 ((t * 3) + 0)))) dX9_measure_93 a_11 rfl (by omega) rfl (fun r_93 => ?_)
    refine tz_iadd (pc := 94) (v := (J 11 t) + (J 11 (J 9 ((t * 3) + 0)))) dX9_measure_94 rfl ?_
    refine tz_aS (pc := 95) (z := t) dX9_measure_95 a_11 rfl (by omega) (by omega) ?_
    refine tz_aload_n (pc := 96) dX9_measure_96 rfl rfl ?_
    refine tz_fR (pc := 97) dX9_measure_97 fl_X9_27 r_6_6 ?_
    refine tz_iload_n (pc := 100) dX9_measure_100 rfl rfl ?_
    refine tz_aload_n (pc := 101) dX9_measure_101 rfl rfl ?_
    refine tz_fR (pc := 102) dX9_measure_102 fl_X9_27 r_6_6 ?_
    refine tz_iload_n (pc := 105) dX9_measure_105 rfl rfl ?_
    refine tz_aL (pc := 106) (z := t) (v := 1) dX9_measure_106 a_12 rfl (by omega) (by simp [zup]) (fun _ => ?_)
    refine tz_aload_n (pc := 107) dX9_measure_107 rfl rfl ?_
    refine tz_fR (pc := 108) dX9_measure_108 fl_X9_27 r_6_6 ?_
    refine tz_iload_n (pc := 111) dX9_measure_111 rfl rfl ?_
    refine tz_aL (pc := 112) (z := (J 9 ((t * 3) + 0))) (v := (J 12 (J 9 ((t * 3) + 0)))) dX9_measure_112 a_12 rfl (by omega) (Eq.trans (show zup _ 12 t 1 12 (J 9 ((t * 3) + 0)) = _ from zup_ne (by omega)) rfl) (fun r_112 => ?_)
    refine tz_iconst (pc := 113) dX9_measure_113 ?_
    refine tz_iadd (pc := 114) (v := (J 12 (J 9 ((t * 3) + 0))) + 1) dX9_measure_114 rfl ?_
    have hm_115 := zmax_le 1 ((J 12 (J 9 ((t * 3) + 0))) + 1)
    refine tz_mx (pc := 115) (v := zmax 1 ((J 12 (J 9 ((t * 3) + 0))) + 1)) dX9_measure_115 ml_X9_86 (Nat.le_of_ble_eq_true rfl) (Nat.le_of_ble_eq_true rfl) (Nat.le_of_ble_eq_true rfl) (Nat.le_of_ble_eq_true rfl) (by decide) (by omega) rfl ?_
    refine tz_aS (pc := 118) (z := t) dX9_measure_118 a_12 rfl (by omega) (by omega) ?_
    refine tz_aload_n (pc := 119) dX9_measure_119 rfl rfl ?_
    refine tz_fR (pc := 120) dX9_measure_120 fl_X9_30 r_6_7 ?_
    refine tz_iload_n (pc := 123) dX9_measure_123 rfl rfl ?_
    refine tz_dup2 (pc := 124) dX9_measure_124 rfl rfl ?_
    refine tz_aL (pc := 125) (z := t) (v := v0) dX9_measure_125 a_13 rfl (by omega) (by simp [zup]) (fun r_125 => ?_)
    refine tz_aload_n (pc := 126) dX9_measure_126 rfl rfl ?_
    refine tz_fR (pc := 127) dX9_measure_127 fl_X9_30 r_6_7 ?_
    refine tz_iload_n (pc := 130) dX9_measure_130 rfl rfl ?_
    refine tz_aL (pc := 131) (z := (J 9 ((t * 3) + 0))) (v := (J 13 (J 9 ((t * 3) + 0)))) dX9_measure_131 a_13 rfl (by omega) (Eq.trans (show zup _ 13 t v0 13 (J 9 ((t * 3) + 0)) = _ from zup_ne (by omega)) rfl) (fun r_131 => ?_)
    refine tz_ior (pc := 132) (v := zor v0 (J 13 (J 9 ((t * 3) + 0)))) dX9_measure_132 rfl ?_
    refine tz_aS (pc := 133) (z := t) dX9_measure_133 a_13 rfl (by omega) (zor_rg _ _) ?_
    refine tz_iinc (pc := 134) (z := 1) (L2 := [_, _, _, _]) dX9_measure_134 rfl (by decide) rfl ?_
    refine tz_goto (pc := 137) (tgt := 45) dX9_measure_137 (by decide) ?_
    refine tz_iload_n (pc := 45) dX9_measure_45 rfl rfl ?_
    refine tz_aload_n (pc := 46) dX9_measure_46 rfl rfl ?_
    refine tz_fR (pc := 47) dX9_measure_47 fl_X9_15 r_6_2 ?_
    refine tz_iload_n (pc := 50) dX9_measure_50 rfl rfl ?_
    refine tz_aL (pc := 51) (z := t) (v := 3) dX9_measure_51 a_8 rfl (by omega) ha (fun _ => ?_)
    refine tz_icmp_geF (pc := 52) (tgt := 140) (by decide) dX9_measure_52 (by decide) (by decide) (by decide) ?_
    refine tz_aload_n (pc := 55) dX9_measure_55 rfl rfl ?_
    refine tz_fR (pc := 56) dX9_measure_56 fl_X9_18 r_6_3 ?_
    refine tz_iload_n (pc := 59) dX9_measure_59 rfl rfl ?_
    refine tz_iconst (pc := 60) dX9_measure_60 ?_
    refine tz_imul (pc := 61) (v := t * 3) dX9_measure_61 rfl ?_
    refine tz_iload_n (pc := 62) dX9_measure_62 rfl rfl ?_
    refine tz_iadd (pc := 63) (v := (t * 3) + 1) dX9_measure_63 rfl ?_
    refine tz_aL (pc := 64) (z := ((t * 3) + 1)) (v := (J 9 ((t * 3) + 1))) dX9_measure_64 a_9 rfl (by omega) rfl (fun r_64 => ?_)
    refine tz_istore_n (pc := 65) (L2 := [_, _, _, _]) dX9_measure_65 rfl (by decide) rfl ?_
    refine tz_aload_n (pc := 66) dX9_measure_66 rfl rfl ?_
    refine tz_fR (pc := 67) dX9_measure_67 fl_X9_21 r_6_4 ?_
    refine tz_iload_n (pc := 70) dX9_measure_70 rfl rfl ?_
    refine tz_dup2 (pc := 71) dX9_measure_71 rfl rfl ?_
    refine tz_aL (pc := 72) (z := t) (v := (1 + (J 10 (J 9 ((t * 3) + 0))))) dX9_measure_72 a_10 rfl (by omega) (by simp [zup]) (fun r_72 => ?_)
    refine tz_aload_n (pc := 73) dX9_measure_73 rfl rfl ?_
    refine tz_fR (pc := 74) dX9_measure_74 fl_X9_21 r_6_4 ?_
    refine tz_iload_n (pc := 77) dX9_measure_77 rfl rfl ?_
    refine tz_aL (pc := 78) (z := (J 9 ((t * 3) + 1))) (v := (J 10 (J 9 ((t * 3) + 1)))) dX9_measure_78 a_10 rfl (by omega) (Eq.trans (show zup _ 10 t (1 + (J 10 (J 9 ((t * 3) + 0)))) 10 (J 9 ((t * 3) + 1)) = _ from zup_ne (by omega)) (Eq.trans (show zup _ 10 t 1 10 (J 9 ((t * 3) + 1)) = _ from zup_ne (by omega)) rfl)) (fun r_78 => ?_)
    refine tz_iadd (pc := 79) (v := (1 + (J 10 (J 9 ((t * 3) + 0)))) + (J 10 (J 9 ((t * 3) + 1)))) dX9_measure_79 rfl ?_
    refine tz_aS (pc := 80) (z := t) dX9_measure_80 a_10 rfl (by omega) (by omega) ?_
    refine tz_aload_n (pc := 81) dX9_measure_81 rfl rfl ?_
    refine tz_fR (pc := 82) dX9_measure_82 fl_X9_24 r_6_5 ?_
    refine tz_iload_n (pc := 85) dX9_measure_85 rfl rfl ?_
    refine tz_dup2 (pc := 86) dX9_measure_86 rfl rfl ?_
    refine tz_aL (pc := 87) (z := t) (v := ((J 11 t) + (J 11 (J 9 ((t * 3) + 0))))) dX9_measure_87 a_11 rfl (by omega) (by simp [zup]) (fun r_87 => ?_)
    refine tz_aload_n (pc := 88) dX9_measure_88 rfl rfl ?_
    refine tz_fR (pc := 89) dX9_measure_89 fl_X9_24 r_6_5 ?_
    refine tz_iload_n (pc := 92) dX9_measure_92 rfl rfl ?_
    refine tz_aL (pc := 93) (z := (J 9 ((t * 3) + 1))) (v := (J 11 (J 9 ((t * 3) + 1)))) dX9_measure_93 a_11 rfl (by omega) (Eq.trans (show zup _ 11 t ((J 11 t) + (J 11 (J 9 ((t * 3) + 0)))) 11 (J 9 ((t * 3) + 1)) = _ from zup_ne (by omega)) rfl) (fun r_93 => ?_)
    refine tz_iadd (pc := 94) (v := ((J 11 t) + (J 11 (J 9 ((t * 3) + 0)))) + (J 11 (J 9 ((t * 3) + 1)))) dX9_measure_94 rfl ?_
    refine tz_aS (pc := 95) (z := t) dX9_measure_95 a_11 rfl (by omega) (by omega) ?_
    refine tz_aload_n (pc := 96) dX9_measure_96 rfl rfl ?_
    refine tz_fR (pc := 97) dX9_measure_97 fl_X9_27 r_6_6 ?_
    refine tz_iload_n (pc := 100) dX9_measure_100 rfl rfl ?_
    refine tz_aload_n (pc := 101) dX9_measure_101 rfl rfl ?_
    refine tz_fR (pc := 102) dX9_measure_102 fl_X9_27 r_6_6 ?_
    refine tz_iload_n (pc := 105) dX9_measure_105 rfl rfl ?_
    refine tz_aL (pc := 106) (z := t) (v := (zmax 1 ((J 12 (J 9 ((t * 3) + 0))) + 1))) dX9_measure_106 a_12 rfl (by omega) (by simp [zup]) (fun r_106 => ?_)
    refine tz_aload_n (pc := 107) dX9_measure_107 rfl rfl ?_
    refine tz_fR (pc := 108) dX9_measure_108 fl_X9_27 r_6_6 ?_
    refine tz_iload_n (pc := 111) dX9_measure_111 rfl rfl ?_
    refine tz_aL (pc := 112) (z := (J 9 ((t * 3) + 1))) (v := (J 12 (J 9 ((t * 3) + 1)))) dX9_measure_112 a_12 rfl (by omega) (Eq.trans (show zup _ 12 t (zmax 1 ((J 12 (J 9 ((t * 3) + 0))) + 1)) 12 (J 9 ((t * 3) + 1)) = _ from zup_ne (by omega)) (Eq.trans (show zup _ 12 t 1 12 (J 9 ((t * 3) + 1)) = _ from zup_ne (by omega)) rfl)) (fun r_112 => ?_)
    refine tz_iconst (pc := 113) dX9_measure_113 ?_
    refine tz_iadd (pc := 114) (v := (J 12 (J 9 ((t * 3) + 1))) + 1) dX9_measure_114 rfl ?_
    have hm_115 := zmax_le (zmax 1 ((J 12 (J 9 ((t * 3) + 0))) + 1)) ((J 12 (J 9 ((t * 3) + 1))) + 1)
    refine tz_mx (pc := 115) (v := zmax (zmax 1 ((J 12 (J 9 ((t * 3) + 0))) + 1)) ((J 12 (J 9 ((t * 3) + 1))) + 1)) dX9_measure_115 ml_X9_86 (Nat.le_of_ble_eq_true rfl) (Nat.le_of_ble_eq_true rfl) (Nat.le_of_ble_eq_true rfl) (Nat.le_of_ble_eq_true rfl) (by omega) (by omega) rfl ?_
    refine tz_aS (pc := 118) (z := t) dX9_measure_118 a_12 rfl (by omega) (by omega) ?_
    refine tz_aload_n (pc := 119) dX9_measure_119 rfl rfl ?_
    refine tz_fR (pc := 120) dX9_measure_120 fl_X9_30 r_6_7 ?_
    refine tz_iload_n (pc := 123) dX9_measure_123 rfl rfl ?_
    refine tz_dup2 (pc := 124) dX9_measure_124 rfl rfl ?_
    refine tz_aL (pc := 125) (z := t) (v := (zor v0 (J 13 (J 9 ((t * 3) + 0))))) dX9_measure_125 a_13 rfl (by omega) (by simp [zup]) (fun r_125 => ?_)
    refine tz_aload_n (pc := 126) dX9_measure_126 rfl rfl ?_
    refine tz_fR (pc := 127) dX9_measure_127 fl_X9_30 r_6_7 ?_
    refine tz_iload_n (pc := 130) dX9_measure_130 rfl rfl ?_
    refine tz_aL (pc := 131) (z := (J 9 ((t * 3) + 1))) (v := (J 13 (J 9 ((t * 3) + 1)))) dX9_measure_131 a_13 rfl (by omega) (Eq.trans (show zup _ 13 t (zor v0 (J 13 (J 9 ((t * 3) + 0)))) 13 (J 9 ((t * 3) + 1)) = _ from zup_ne (by omega)) (Eq.trans (show zup _ 13 t v0 13 (J 9 ((t * 3) + 1)) = _ from zup_ne (by omega)) rfl)) (fun r_131 => ?_)
    refine tz_ior (pc := 132) (v := zor (zor v0 (J 13 (J 9 ((t * 3) + 0)))) (J 13 (J 9 ((t * 3) + 1)))) dX9_measure_132 rfl ?_
    refine tz_aS (pc := 133) (z := t) dX9_measure_133 a_13 rfl (by omega) (zor_rg _ _) ?_
    refine tz_iinc (pc := 134) (z := 2) (L2 := [_, _, _, _]) dX9_measure_134 rfl (by decide) rfl ?_
    refine tz_goto (pc := 137) (tgt := 45) dX9_measure_137 (by decide) ?_
    refine tz_iload_n (pc := 45) dX9_measure_45 rfl rfl ?_
    refine tz_aload_n (pc := 46) dX9_measure_46 rfl rfl ?_
    refine tz_fR (pc := 47) dX9_measure_47 fl_X9_15 r_6_2 ?_
    refine tz_iload_n (pc := 50) dX9_measure_50 rfl rfl ?_
    refine tz_aL (pc := 51) (z := t) (v := 3) dX9_measure_51 a_8 rfl (by omega) ha (fun _ => ?_)
    refine tz_icmp_geF (pc := 52) (tgt := 140) (by decide) dX9_measure_52 (by decide) (by decide) (by decide) ?_
    refine tz_aload_n (pc := 55) dX9_measure_55 rfl rfl ?_
    refine tz_fR (pc := 56) dX9_measure_56 fl_X9_18 r_6_3 ?_
    refine tz_iload_n (pc := 59) dX9_measure_59 rfl rfl ?_
    refine tz_iconst (pc := 60) dX9_measure_60 ?_
    refine tz_imul (pc := 61) (v := t * 3) dX9_measure_61 rfl ?_
    refine tz_iload_n (pc := 62) dX9_measure_62 rfl rfl ?_
    refine tz_iadd (pc := 63) (v := (t * 3) + 2) dX9_measure_63 rfl ?_
    refine tz_aL (pc := 64) (z := ((t * 3) + 2)) (v := (J 9 ((t * 3) + 2))) dX9_measure_64 a_9 rfl (by omega) rfl (fun r_64 => ?_)
    refine tz_istore_n (pc := 65) (L2 := [_, _, _, _]) dX9_measure_65 rfl (by decide) rfl ?_
    refine tz_aload_n (pc := 66) dX9_measure_66 rfl rfl ?_
    refine tz_fR (pc := 67) dX9_measure_67 fl_X9_21 r_6_4 ?_
    refine tz_iload_n (pc := 70) dX9_measure_70 rfl rfl ?_
    refine tz_dup2 (pc := 71) dX9_measure_71 rfl rfl ?_
    refine tz_aL (pc := 72) (z := t) (v := ((1 + (J 10 (J 9 ((t * 3) + 0)))) + (J 10 (J 9 ((t * 3) + 1))))) dX9_measure_72 a_10 rfl (by omega) (by simp [zup]) (fun r_72 => ?_)
    refine tz_aload_n (pc := 73) dX9_measure_73 rfl rfl ?_
    refine tz_fR (pc := 74) dX9_measure_74 fl_X9_21 r_6_4 ?_
    refine tz_iload_n (pc := 77) dX9_measure_77 rfl rfl ?_
    refine tz_aL (pc := 78) (z := (J 9 ((t * 3) + 2))) (v := (J 10 (J 9 ((t * 3) + 2)))) dX9_measure_78 a_10 rfl (by omega) (Eq.trans (show zup _ 10 t ((1 + (J 10 (J 9 ((t * 3) + 0)))) + (J 10 (J 9 ((t * 3) + 1)))) 10 (J 9 ((t * 3) + 2)) = _ from zup_ne (by omega)) (Eq.trans (show zup _ 10 t (1 + (J 10 (J 9 ((t * 3) + 0)))) 10 (J 9 ((t * 3) + 2)) = _ from zup_ne (by omega)) (Eq.trans (show zup _ 10 t 1 10 (J 9 ((t * 3) + 2)) = _ from zup_ne (by omega)) rfl))) (fun r_78 => ?_)
    refine tz_iadd (pc := 79) (v := ((1 + (J 10 (J 9 ((t * 3) + 0)))) + (J 10 (J 9 ((t * 3) + 1)))) + (J 10 (J 9 ((t * 3) + 2)))) dX9_measure_79 rfl ?_
    refine tz_aS (pc := 80) (z := t) dX9_measure_80 a_10 rfl (by omega) (by omega) ?_
    refine tz_aload_n (pc := 81) dX9_measure_81 rfl rfl ?_
    refine tz_fR (pc := 82) dX9_measure_82 fl_X9_24 r_6_5 ?_
    refine tz_iload_n (pc := 85) dX9_measure_85 rfl rfl ?_
    refine tz_dup2 (pc := 86) dX9_measure_86 rfl rfl ?_
    refine tz_aL (pc := 87) (z := t) (v := (((J 11 t) + (J 11 (J 9 ((t * 3) + 0)))) + (J 11 (J 9 ((t * 3) + 1))))) dX9_measure_87 a_11 rfl (by omega) (by simp [zup]) (fun r_87 => ?_)
    refine tz_aload_n (pc := 88) dX9_measure_88 rfl rfl ?_
    refine tz_fR (pc := 89) dX9_measure_89 fl_X9_24 r_6_5 ?_
    refine tz_iload_n (pc := 92) dX9_measure_92 rfl rfl ?_
    refine tz_aL (pc := 93) (z := (J 9 ((t * 3) + 2))) (v := (J 11 (J 9 ((t * 3) + 2)))) dX9_measure_93 a_11 rfl (by omega) (Eq.trans (show zup _ 11 t (((J 11 t) + (J 11 (J 9 ((t * 3) + 0)))) + (J 11 (J 9 ((t * 3) + 1)))) 11 (J 9 ((t * 3) + 2)) = _ from zup_ne (by omega)) (Eq.trans (show zup _ 11 t ((J 11 t) + (J 11 (J 9 ((t * 3) + 0)))) 11 (J 9 ((t * 3) + 2)) = _ from zup_ne (by omega)) rfl)) (fun r_93 => ?_)
    refine tz_iadd (pc := 94) (v := (((J 11 t) + (J 11 (J 9 ((t * 3) + 0)))) + (J 11 (J 9 ((t * 3) + 1)))) + (J 11 (J 9 ((t * 3) + 2)))) dX9_measure_94 rfl ?_
    refine tz_aS (pc := 95) (z := t) dX9_measure_95 a_11 rfl (by omega) (by omega) ?_
    refine tz_aload_n (pc := 96) dX9_measure_96 rfl rfl ?_
    refine tz_fR (pc := 97) dX9_measure_97 fl_X9_27 r_6_6 ?_
    refine tz_iload_n (pc := 100) dX9_measure_100 rfl rfl ?_
    refine tz_aload_n (pc := 101) dX9_measure_101 rfl rfl ?_
    refine tz_fR (pc := 102) dX9_measure_102 fl_X9_27 r_6_6 ?_
    refine tz_iload_n (pc := 105) dX9_measure_105 rfl rfl ?_
    refine tz_aL (pc := 106) (z := t) (v := (zmax (zmax 1 ((J 12 (J 9 ((t * 3) + 0))) + 1)) ((J 12 (J 9 ((t * 3) + 1))) + 1))) dX9_measure_106 a_12 rfl (by omega) (by simp [zup]) (fun r_106 => ?_)
    refine tz_aload_n (pc := 107) dX9_measure_107 rfl rfl ?_
    refine tz_fR (pc := 108) dX9_measure_108 fl_X9_27 r_6_6 ?_
    refine tz_iload_n (pc := 111) dX9_measure_111 rfl rfl ?_
    refine tz_aL (pc := 112) (z := (J 9 ((t * 3) + 2))) (v := (J 12 (J 9 ((t * 3) + 2)))) dX9_measure_112 a_12 rfl (by omega) (Eq.trans (show zup _ 12 t (zmax (zmax 1 ((J 12 (J 9 ((t * 3) + 0))) + 1)) ((J 12 (J 9 ((t * 3) + 1))) + 1)) 12 (J 9 ((t * 3) + 2)) = _ from zup_ne (by omega)) (Eq.trans (show zup _ 12 t (zmax 1 ((J 12 (J 9 ((t * 3) + 0))) + 1)) 12 (J 9 ((t * 3) + 2)) = _ from zup_ne (by omega)) (Eq.trans (show zup _ 12 t 1 12 (J 9 ((t * 3) + 2)) = _ from zup_ne (by omega)) rfl))) (fun r_112 => ?_)
    refine tz_iconst (pc := 113) dX9_measure_113 ?_
    refine tz_iadd (pc := 114) (v := (J 12 (J 9 ((t * 3) + 2))) + 1) dX9_measure_114 rfl ?_
    have hm_115 := zmax_le (zmax (zmax 1 ((J 12 (J 9 ((t * 3) + 0))) + 1)) ((J 12 (J 9 ((t * 3) + 1))) + 1)) ((J 12 (J 9 ((t * 3) + 2))) + 1)
    refine tz_mx (pc := 115) (v := zmax (zmax (zmax 1 ((J 12 (J 9 ((t * 3) + 0))) + 1)) ((J 12 (J 9 ((t * 3) + 1))) + 1)) ((J 12 (J 9 ((t * 3) + 2))) + 1)) dX9_measure_115 ml_X9_86 (Nat.le_of_ble_eq_true rfl) (Nat.le_of_ble_eq_true rfl) (Nat.le_of_ble_eq_true rfl) (Nat.le_of_ble_eq_true rfl) (by omega) (by omega) rfl ?_
    refine tz_aS (pc := 118) (z := t) dX9_measure_118 a_12 rfl (by omega) (by omega) ?_
    refine tz_aload_n (pc := 119) dX9_measure_119 rfl rfl ?_
    refine tz_fR (pc := 120) dX9_measure_120 fl_X9_30 r_6_7 ?_
    refine tz_iload_n (pc := 123) dX9_measure_123 rfl rfl ?_
    refine tz_dup2 (pc := 124) dX9_measure_124 rfl rfl ?_
    refine tz_aL (pc := 125) (z := t) (v := (zor (zor v0 (J 13 (J 9 ((t * 3) + 0)))) (J 13 (J 9 ((t * 3) + 1))))) dX9_measure_125 a_13 rfl (by omega) (by simp [zup]) (fun r_125 => ?_)
    refine tz_aload_n (pc := 126) dX9_measure_126 rfl rfl ?_
    refine tz_fR (pc := 127) dX9_measure_127 fl_X9_30 r_6_7 ?_
    refine tz_iload_n (pc := 130) dX9_measure_130 rfl rfl ?_
    refine tz_aL (pc := 131) (z := (J 9 ((t * 3) + 2))) (v := (J 13 (J 9 ((t * 3) + 2)))) dX9_measure_131 a_13 rfl (by omega) (Eq.trans (show zup _ 13 t (zor (zor v0 (J 13 (J 9 ((t * 3) + 0)))) (J 13 (J 9 ((t * 3) + 1)))) 13 (J 9 ((t * 3) + 2)) = _ from zup_ne (by omega)) (Eq.trans (show zup _ 13 t (zor v0 (J 13 (J 9 ((t * 3) + 0)))) 13 (J 9 ((t * 3) + 2)) = _ from zup_ne (by omega)) (Eq.trans (show zup _ 13 t v0 13 (J 9 ((t * 3) + 2)) = _ from zup_ne (by omega)) rfl))) (fun r_131 => ?_)
    refine tz_ior (pc := 132) (v := zor (zor (zor v0 (J 13 (J 9 ((t * 3) + 0)))) (J 13 (J 9 ((t * 3) + 1)))) (J 13 (J 9 ((t * 3) + 2)))) dX9_measure_132 rfl ?_
    refine tz_aS (pc := 133) (z := t) dX9_measure_133 a_13 rfl (by omega) (zor_rg _ _) ?_
    refine tz_iinc (pc := 134) (z := 3) (L2 := [_, _, _, _]) dX9_measure_134 rfl (by decide) rfl ?_
    refine tz_goto (pc := 137) (tgt := 45) dX9_measure_137 (by decide) ?_
    refine tz_iload_n (pc := 45) dX9_measure_45 rfl rfl ?_
    refine tz_aload_n (pc := 46) dX9_measure_46 rfl rfl ?_
    refine tz_fR (pc := 47) dX9_measure_47 fl_X9_15 r_6_2 ?_
    refine tz_iload_n (pc := 50) dX9_measure_50 rfl rfl ?_
    refine tz_aL (pc := 51) (z := t) (v := 3) dX9_measure_51 a_8 rfl (by omega) ha (fun _ => ?_)
    refine tz_icmp_geT (pc := 52) (tgt := 140) (by decide) dX9_measure_52 (by decide) (by decide) (by decide) ?_
    exact tz_vret (pc := 140) dX9_measure_140 rfl (Nat.le_of_ble_eq_true rfl) (Nat.le_of_ble_eq_true rfl) ⟨Nat.le_refl _, Nat.le_add_right _ _⟩ ⟨rfl, ⟨(zOf.up rfl (zOf.up rfl (zOf.up rfl (zOf.up rfl (zOf.up rfl (zOf.up rfl (zOf.up rfl (zOf.up rfl (zOf.up rfl (zOf.up rfl (zOf.up rfl (zOf.up rfl (zOf.up rfl (zOf.up rfl (zOf.up rfl zOf.rf))))))))))))))), fun k hk => ⟨by simp [zup, hk], by simp [zup, hk], by simp [zup, hk], by simp [zup, hk]⟩, (Eq.trans (b := (((1 + (J 10 (J 9 ((t * 3) + 0)))) + (J 10 (J 9 ((t * 3) + 1)))) + (J 10 (J 9 ((t * 3) + 2))))) (by simp [zup]) (by simp [zs3, ha] <;> omega)), (Eq.trans (b := ((((J 11 t) + (J 11 (J 9 ((t * 3) + 0)))) + (J 11 (J 9 ((t * 3) + 1)))) + (J 11 (J 9 ((t * 3) + 2))))) (by simp [zup]) (by simp [zw3, ha] <;> omega)), (Eq.trans (b := (zmax (zmax (zmax 1 ((J 12 (J 9 ((t * 3) + 0))) + 1)) ((J 12 (J 9 ((t * 3) + 1))) + 1)) ((J 12 (J 9 ((t * 3) + 2))) + 1))) (by simp [zup]) (by simp [zd3, ha] <;> omega)), (Eq.trans (b := (zor (zor (zor v0 (J 13 (J 9 ((t * 3) + 0)))) (J 13 (J 9 ((t * 3) + 1)))) (J 13 (J 9 ((t * 3) + 2))))) (by simp [zup]) (by simp [zv3, ha, hj_42]))⟩⟩
  refine tz_if_ge (pc := 25) (tgt := 41) dX9_measure_25 (by decide) (by omega) (fun h_25 => ?_) (fun h_25 => ?_)
  · refine tz_iconst (pc := 41) dX9_measure_41 ?_
    exact join42 0 (by decide) (by unfold zv0; split <;> first | rfl | omega)
  · refine tz_iconst (pc := 28) dX9_measure_28 ?_
    refine tz_aload_n (pc := 29) dX9_measure_29 rfl rfl ?_
    refine tz_fR (pc := 30) dX9_measure_30 fl_X9_11 r_6_1 ?_
    refine tz_iload_n (pc := 33) dX9_measure_33 rfl rfl ?_
    refine tz_aL (pc := 34) (z := t) (v := (J 7 t)) dX9_measure_34 a_7 rfl (by omega) rfl (fun r_34 => ?_)
    refine tz_iconst (pc := 35) dX9_measure_35 ?_
    refine tz_ixor (pc := 36) (v := zxor (J 7 t) (-1)) dX9_measure_36 rfl ?_
    refine tz_ishl (pc := 37) (v := zshl 1 (zxor (J 7 t) (-1))) dX9_measure_37 rfl ?_
    refine tz_goto (pc := 38) (tgt := 42) dX9_measure_38 (by decide) ?_
    exact join42 (zshl 1 (zxor (J 7 t) (-1))) (zshl_rg _ _) (by unfold zv0; split <;> first | rfl | omega)

theorem c_measure {l : Launch} {G : tb_G} (hl : l.stackTraces = false) (n : Nat) (J : zJ) (t : Int) (hr_t : -2147483648 ≤ t ∧ t < 2147483648) (h0 : 0 ≤ t ∧ t < 401) (hw : 0 ≤ J 11 t ∧ J 11 t ≤ 9) (hp : ∀ i, 0 ≤ i → i < J 8 t → (0 ≤ J 9 (t * 3 + i) ∧ J 9 (t * 3 + i) < t) ∧ (0 ≤ J 10 (J 9 (t * 3 + i)) ∧ J 10 (J 9 (t * 3 + i)) ≤ 364) ∧ (0 ≤ J 11 (J 9 (t * 3 + i)) ∧ J 11 (J 9 (t * 3 + i)) ≤ 4000) ∧ 0 ≤ J 12 (J 9 (t * 3 + i)) ∧ J 12 (J 9 (t * 3 + i)) ≤ 6) (ha : 0 ≤ J 8 t ∧ J 8 t ≤ 3) : tz_Ok l G M_X9_measure 1 0 0 [.ref 6, zi t] n J (zqv (fun J' => zOf (zbut [10, 11, 12, 13]) J' J ∧ (∀ k, ¬ k = t → J' 10 k = J 10 k ∧ J' 11 k = J 11 k ∧ J' 12 k = J 12 k ∧ J' 13 k = J 13 k) ∧ J' 10 t = 1 + zs3 J t ∧ J' 11 t = J 11 t + zw3 J t ∧ J' 12 t = zd3 J t ∧ J' 13 t = zv3 J t)) zN := by
  rcases (show J 8 t = 0 ∨ J 8 t = 1 ∨ J 8 t = 2 ∨ J 8 t = 3 by omega) with h | h | h | h
  · exact c_meas0 hl n J t hr_t h0 hw hp h
  · exact c_meas1 hl n J t hr_t h0 hw hp h
  · exact c_meas2 hl n J t hr_t h0 hw hp h
  · exact c_meas3 hl n J t hr_t h0 hw hp h
