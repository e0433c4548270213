section
set_option maxHeartbeats 4000000 in
set_option maxRecDepth 100000 in
theorem c_syHas {l : Launch} {G : tb_G} (hl : l.stackTraces = false) (n : Nat) (J : zJ) (x : Int) (hr_x : -2147483648 ≤ x ∧ x < 2147483648)   : tz_Ok l G M_X8_has 0 0 0 [.ref 1, zi x] n J (zqi (fun z J' => J = J' ∧ (if 0 ≤ x ∧ x < J 1 3 then 1 else 0) = z)) zN := by
  refine tz_Ok.of hl (by decide +kernel) rfl (tb_c1 rfl) (Nat.le_of_ble_eq_true rfl) ?_
  show tz_At l G M_X8_has (tb_rm 0 0 0) none (tb_ZM G 0 0 (zQ n 0 (zqi (fun z J' => J = J' ∧ (if 0 ≤ x ∧ x < J 1 3 then 1 else 0) = z))) (zX n 0 zN)) 0 0 n J 0 [some (.ref 1), some (zi x)] []
  refine tz_iload_n (pc := 0) dX8_has_0 rfl rfl ?_
  refine tz_if_lt (pc := 1) (tgt := 16) dX8_has_1 (by decide) (by omega) (fun h_1 => ?_) (fun h_1 => ?_)
  · refine tz_iconst (pc := 16) dX8_has_16 ?_
    exact tz_zret (pc := 17) (z := 0) dX8_has_17 rfl (Or.inl rfl) (Nat.le_of_ble_eq_true rfl) (Nat.le_of_ble_eq_true rfl) ⟨Nat.le_refl _, Nat.le_add_right _ _⟩ ⟨_, rfl, (by decide), ⟨rfl, by split <;> omega⟩⟩
  · refine tz_iload_n (pc := 4) dX8_has_4 rfl rfl ?_
    refine tz_aload_n (pc := 5) dX8_has_5 rfl rfl ?_
    refine tz_fI (pc := 6) (kz := 3) (v := (J 1 3)) dX8_has_6 fl_X8_21 i_1_3 rfl rfl (fun r_6 => ?_)
    refine tz_icmp_ge (pc := 9) (tgt := 16) dX8_has_9 (by decide) (by omega) (by omega) (fun h_9 => ?_) (fun h_9 => ?_)
    · refine tz_iconst (pc := 16) dX8_has_16 ?_
      exact tz_zret (pc := 17) (z := 0) dX8_has_17 rfl (Or.inl rfl) (Nat.le_of_ble_eq_true rfl) (Nat.le_of_ble_eq_true rfl) ⟨Nat.le_refl _, Nat.le_add_right _ _⟩ ⟨_, rfl, (by decide), ⟨rfl, by split <;> omega⟩⟩
    · refine tz_iconst (pc := 12) dX8_has_12 ?_
      refine tz_goto (pc := 13) (tgt := 17) dX8_has_13 (by decide) ?_
      exact tz_zret (pc := 17) (z := 1) dX8_has_17 rfl (Or.inr rfl) (Nat.le_of_ble_eq_true rfl) (Nat.le_of_ble_eq_true rfl) ⟨Nat.le_refl _, Nat.le_add_right _ _⟩ ⟨_, rfl, (by decide), ⟨rfl, by split <;> omega⟩⟩

set_option maxHeartbeats 4000000 in
set_option maxRecDepth 100000 in
theorem c_has {l : Launch} {G : tb_G} (hl : l.stackTraces = false) (n : Nat) (J : zJ) (x : Int) (hr_x : -2147483648 ≤ x ∧ x < 2147483648)   : tz_Ok l G M_X9_has 0 0 0 [.ref 6, zi x] n J (zqi (fun z J' => J = J' ∧ (if 0 ≤ x ∧ x < J 6 12 then 1 else 0) = z)) zN := by
  refine tz_Ok.of hl (by decide +kernel) rfl (tb_c1 rfl) (Nat.le_of_ble_eq_true rfl) ?_
  show tz_At l G M_X9_has (tb_rm 0 0 0) none (tb_ZM G 0 0 (zQ n 0 (zqi (fun z J' => J = J' ∧ (if 0 ≤ x ∧ x < J 6 12 then 1 else 0) = z))) (zX n 0 zN)) 0 0 n J 0 [some (.ref 6), some (zi x)] []
  refine tz_iload_n (pc := 0) dX9_has_0 rfl rfl ?_
  refine tz_if_lt (pc := 1) (tgt := 16) dX9_has_1 (by decide) (by omega) (fun h_1 => ?_) (fun h_1 => ?_)
  · refine tz_iconst (pc := 16) dX9_has_16 ?_
    exact tz_zret (pc := 17) (z := 0) dX9_has_17 rfl (Or.inl rfl) (Nat.le_of_ble_eq_true rfl) (Nat.le_of_ble_eq_true rfl) ⟨Nat.le_refl _, Nat.le_add_right _ _⟩ ⟨_, rfl, (by decide), ⟨rfl, by split <;> omega⟩⟩
  · refine tz_iload_n (pc := 4) dX9_has_4 rfl rfl ?_
    refine tz_aload_n (pc := 5) dX9_has_5 rfl rfl ?_
    refine tz_fI (pc := 6) (kz := 12) (v := (J 6 12)) dX9_has_6 fl_X9_45 i_6_12 rfl rfl (fun r_6 => ?_)
    refine tz_icmp_ge (pc := 9) (tgt := 16) dX9_has_9 (by decide) (by omega) (by omega) (fun h_9 => ?_) (fun h_9 => ?_)
    · refine tz_iconst (pc := 16) dX9_has_16 ?_
      exact tz_zret (pc := 17) (z := 0) dX9_has_17 rfl (Or.inl rfl) (Nat.le_of_ble_eq_true rfl) (Nat.le_of_ble_eq_true rfl) ⟨Nat.le_refl _, Nat.le_add_right _ _⟩ ⟨_, rfl, (by decide), ⟨rfl, by split <;> omega⟩⟩
    · refine tz_iconst (pc := 12) dX9_has_12 ?_
      refine tz_goto (pc := 13) (tgt := 17) dX9_has_13 (by decide) ?_
      exact tz_zret (pc := 17) (z := 1) dX9_has_17 rfl (Or.inr rfl) (Nat.le_of_ble_eq_true rfl) (Nat.le_of_ble_eq_true rfl) ⟨Nat.le_refl _, Nat.le_add_right _ _⟩ ⟨_, rfl, (by decide), ⟨rfl, by split <;> omega⟩⟩

set_option maxHeartbeats 4000000 in
set_option maxRecDepth 100000 in
theorem c_isVar {l : Launch} {G : tb_G} (hl : l.stackTraces = false) (n : Nat) (J : zJ) (t : Int) (hr_t : -2147483648 ≤ t ∧ t < 2147483648)  (h0 : 0 ≤ t ∧ t < 401) : tz_Ok l G M_X9_isVariable 0 0 0 [.ref 6, zi t] n J (zqi (fun z J' => J = J' ∧ (if J 7 t < 0 then 1 else 0) = z)) zN := by
  refine tz_Ok.of hl (by decide +kernel) rfl (tb_c1 rfl) (Nat.le_of_ble_eq_true rfl) ?_
  show tz_At l G M_X9_isVariable (tb_rm 0 0 0) none (tb_ZM G 0 0 (zQ n 0 (zqi (fun z J' => J = J' ∧ (if J 7 t < 0 then 1 else 0) = z))) (zX n 0 zN)) 0 0 n J 0 [some (.ref 6), some (zi t)] []
  refine tz_aload_n (pc := 0) dX9_isVariable_0 rfl rfl ?_
  refine tz_fR (pc := 1) dX9_isVariable_1 fl_X9_11 r_6_1 ?_
  refine tz_iload_n (pc := 4) dX9_isVariable_4 rfl rfl ?_
  refine tz_aL (pc := 5) (z := t) (v := (J 7 t)) dX9_isVariable_5 a_7 rfl (by omega) rfl (fun r_5 => ?_)
  refine tz_if_ge (pc := 6) (tgt := 13) dX9_isVariable_6 (by decide) (by omega) (fun h_6 => ?_) (fun h_6 => ?_)
  · refine tz_iconst (pc := 13) dX9_isVariable_13 ?_
    exact tz_zret (pc := 14) (z := 0) dX9_isVariable_14 rfl (Or.inl rfl) (Nat.le_of_ble_eq_true rfl) (Nat.le_of_ble_eq_true rfl) ⟨Nat.le_refl _, Nat.le_add_right _ _⟩ ⟨_, rfl, (by decide), ⟨rfl, by split <;> omega⟩⟩
  · refine tz_iconst (pc := 9) dX9_isVariable_9 ?_
    refine tz_goto (pc := 10) (tgt := 14) dX9_isVariable_10 (by decide) ?_
    exact tz_zret (pc := 14) (z := 1) dX9_isVariable_14 rfl (Or.inr rfl) (Nat.le_of_ble_eq_true rfl) (Nat.le_of_ble_eq_true rfl) ⟨Nat.le_refl _, Nat.le_add_right _ _⟩ ⟨_, rfl, (by decide), ⟨rfl, by split <;> omega⟩⟩

set_option maxHeartbeats 4000000 in
set_option maxRecDepth 100000 in
theorem c_arg {l : Launch} {G : tb_G} (hl : l.stackTraces = false) (n : Nat) (J : zJ) (t : Int) (i : Int) (hr_t : -2147483648 ≤ t ∧ t < 2147483648) (hr_i : -2147483648 ≤ i ∧ i < 2147483648)  (h0 : 0 ≤ t * 3 + i ∧ t * 3 + i < 1203) : tz_Ok l G M_X9_argumentOf 0 0 0 [.ref 6, zi t, zi i] n J (zqi (fun z J' => J = J' ∧ J 9 (t * 3 + i) = z)) zN := by
  refine tz_Ok.of hl (by decide +kernel) rfl (tb_c1 rfl) (Nat.le_of_ble_eq_true rfl) ?_
  show tz_At l G M_X9_argumentOf (tb_rm 0 0 0) none (tb_ZM G 0 0 (zQ n 0 (zqi (fun z J' => J = J' ∧ J 9 (t * 3 + i) = z))) (zX n 0 zN)) 0 0 n J 0 [some (.ref 6), some (zi t), some (zi i)] []
  refine tz_aload_n (pc := 0) dX9_argumentOf_0 rfl rfl ?_
  refine tz_fR (pc := 1) dX9_argumentOf_1 fl_X9_18 r_6_3 ?_
  refine tz_iload_n (pc := 4) dX9_argumentOf_4 rfl rfl ?_
  refine tz_iconst (pc := 5) dX9_argumentOf_5 ?_
  refine tz_imul (pc := 6) (v := t * 3) dX9_argumentOf_6 rfl ?_
  refine tz_iload_n (pc := 7) dX9_argumentOf_7 rfl rfl ?_
  refine tz_iadd (pc := 8) (v := (t * 3) + i) dX9_argumentOf_8 rfl ?_
  refine tz_aL (pc := 9) (z := ((t * 3) + i)) (v := (J 9 ((t * 3) + i))) dX9_argumentOf_9 a_9 rfl (by omega) rfl (fun r_9 => ?_)
  exact tz_iret (pc := 10) (z := (J 9 ((t * 3) + i))) dX9_argumentOf_10 rfl (Nat.le_of_ble_eq_true rfl) (Nat.le_of_ble_eq_true rfl) ⟨Nat.le_refl _, Nat.le_add_right _ _⟩ ⟨_, rfl, (by omega), ⟨rfl, rfl⟩⟩

set_option maxHeartbeats 4000000 in
set_option maxRecDepth 100000 in
theorem c_bucket {l : Launch} {G : tb_G} (hl : l.stackTraces = false) (n : Nat) (J : zJ) (t : Int) (hr_t : -2147483648 ≤ t ∧ t < 2147483648)  (h0 : 0 ≤ t ∧ t < 401) (h1 : 0 ≤ J 8 t ∧ J 8 t ≤ 3) (h2 : ∀ i, 0 ≤ i → i < J 8 t → 0 ≤ J 9 (t * 3 + i) ∧ J 9 (t * 3 + i) < 401) : tz_Ok l G M_X9_bucketOf 1 0 0 [.ref 6, zi t] n J (zqi (fun z J' => J = J' ∧ zbk J t = z)) zN := by
  refine tz_Ok.of hl (by decide +kernel) rfl (tb_c1 rfl) (Nat.le_of_ble_eq_true rfl) ?_
  show tz_At l G M_X9_bucketOf (tb_rm 1 0 0) none (tb_ZM G 0 0 (zQ n 0 (zqi (fun z J' => J = J' ∧ zbk J t = z))) (zX n 0 zN)) 0 0 n J 0 [some (.ref 6), some (zi t), none, none] []
  refine tz_aload_n (pc := 0) dX9_bucketOf_0 rfl rfl ?_
  refine tz_fR (pc := 1) dX9_bucketOf_1 fl_X9_11 r_6_1 ?_
  refine tz_iload_n (pc := 4) dX9_bucketOf_4 rfl rfl ?_
  refine tz_aL (pc := 5) (z := t) (v := (J 7 t)) dX9_bucketOf_5 a_7 rfl (by omega) rfl (fun r_5 => ?_)
  refine tz_iconst (pc := 6) dX9_bucketOf_6 ?_
  refine tz_mx (pc := 7) (v := zmx J t 0) dX9_bucketOf_7 ml_X9_86 (Nat.le_of_ble_eq_true rfl) (Nat.le_of_ble_eq_true rfl) (Nat.le_of_ble_eq_true rfl) (Nat.le_of_ble_eq_true rfl) (by omega) (by decide) rfl ?_
  refine tz_istore_n (pc := 10) (L2 := [_, _, _, _]) dX9_bucketOf_10 rfl (by decide) rfl ?_
  refine tz_iconst (pc := 11) dX9_bucketOf_11 ?_
  refine tz_istore_n (pc := 12) (L2 := [_, _, _, _]) dX9_bucketOf_12 rfl (by decide) rfl ?_
  have loop13 : ∀ (f9 : Nat) (i : Int) (x : Int), ((3 - i).toNat) < f9 → (0 ≤ i ∧ i ≤ J 8 t) → (x = zmx J t i.toNat) → tz_At l G M_X9_bucketOf (tb_rm 1 0 0) none (tb_ZM G 0 0 (zQ n 0 (zqi (fun z J' => J = J' ∧ zbk J t = z))) (zX n 0 zN)) 0 0 n J 13 [some (.ref 6), some (zi t), some (zi x), some (zi i)] [] := by
    intro f9
    induction f9 with
    | zero => intro i x hm9; exact absurd hm9 (Nat.not_lt_zero _)
    | succ f9 ih13 =>
      intro i x hm13 hi hx
      refine tz_iload_n (pc := 13) dX9_bucketOf_13 rfl rfl ?_
      refine tz_aload_n (pc := 14) dX9_bucketOf_14 rfl rfl ?_
      refine tz_fR (pc := 15) dX9_bucketOf_15 fl_X9_15 r_6_2 ?_
      refine tz_iload_n (pc := 18) dX9_bucketOf_18 rfl rfl ?_
      refine tz_aL (pc := 19) (z := t) (v := (J 8 t)) dX9_bucketOf_19 a_8 rfl (by omega) rfl (fun r_19 => ?_)
      refine tz_icmp_ge (pc := 20) (tgt := 50) dX9_bucketOf_20 (by decide) (by omega) (by omega) (fun h_20 => ?_) (fun h_20 => ?_)
      · refine tz_iload_n (pc := 50) dX9_bucketOf_50 rfl rfl ?_
        refine tz_iload_n (pc := 51) dX9_bucketOf_51 rfl rfl ?_
        refine tz_bipush (pc := 52) dX9_bucketOf_52 (by decide) ?_
        refine tz_iushr (pc := 54) (v := zushr x 8) dX9_bucketOf_54 rfl ?_
        refine tz_ixor (pc := 55) (v := zxor x (zushr x 8)) dX9_bucketOf_55 rfl ?_
        refine tz_sipush (pc := 56) dX9_bucketOf_56 (by decide) ?_
        refine tz_iand (pc := 59) (v := zand (zxor x (zushr x 8)) 255) dX9_bucketOf_59 rfl ?_
        exact tz_iret (pc := 60) (z := (zand (zxor x (zushr x 8)) 255)) dX9_bucketOf_60 rfl (Nat.le_of_ble_eq_true rfl) (Nat.le_of_ble_eq_true rfl) ⟨Nat.le_refl _, Nat.le_add_right _ _⟩ ⟨_, rfl, (zand_rg _ _), ⟨rfl, by rw [hx, show i = J 8 t by omega]; rfl⟩⟩
      · refine tz_iload_n (pc := 23) dX9_bucketOf_23 rfl rfl ?_
        refine tz_bipush (pc := 24) dX9_bucketOf_24 (by decide) ?_
        refine tz_imul (pc := 26) (v := x * 37) dX9_bucketOf_26 rfl ?_
        refine tz_aload_n (pc := 27) dX9_bucketOf_27 rfl rfl ?_
        refine tz_fR (pc := 28) dX9_bucketOf_28 fl_X9_33 r_6_8 ?_
        refine tz_aload_n (pc := 31) dX9_bucketOf_31 rfl rfl ?_
        refine tz_fR (pc := 32) dX9_bucketOf_32 fl_X9_18 r_6_3 ?_
        refine tz_iload_n (pc := 35) dX9_bucketOf_35 rfl rfl ?_
        refine tz_iconst (pc := 36) dX9_bucketOf_36 ?_
        refine tz_imul (pc := 37) (v := t * 3) dX9_bucketOf_37 rfl ?_
        refine tz_iload_n (pc := 38) dX9_bucketOf_38 rfl rfl ?_
        refine tz_iadd (pc := 39) (v := (t * 3) + i) dX9_bucketOf_39 rfl ?_
        have hp := h2 i (by omega) (by omega)
        refine tz_aL (pc := 40) (z := ((t * 3) + i)) (v := (J 9 ((t * 3) + i))) dX9_bucketOf_40 a_9 rfl (by omega) rfl (fun r_40 => ?_)
        refine tz_aL (pc := 41) (z := (J 9 ((t * 3) + i))) (v := (J 14 (J 9 ((t * 3) + i)))) dX9_bucketOf_41 a_14 rfl (by omega) rfl (fun r_41 => ?_)
        refine tz_iadd (pc := 42) (v := (x * 37) + (J 14 (J 9 ((t * 3) + i)))) dX9_bucketOf_42 rfl ?_
        refine tz_istore_n (pc := 43) (L2 := [_, _, _, _]) dX9_bucketOf_43 rfl (by decide) rfl ?_
        refine tz_iinc (pc := 44) (z := i + 1) (L2 := [_, _, _, _]) dX9_bucketOf_44 rfl (by omega) rfl ?_
        refine tz_goto (pc := 47) (tgt := 13) dX9_bucketOf_47 (by decide) ?_
        exact ih13 (i + 1) _ (by omega) (by omega) (by rw [hx, show (i + 1).toNat = i.toNat + 1 by omega]; simp only [zmx]; rw [show ((i.toNat : Nat) : Int) = i by omega])
  exact loop13 _ 0 _ (Nat.lt_succ_self _) (by omega) rfl

set_option maxHeartbeats 4000000 in
set_option maxRecDepth 100000 in
theorem c_same {l : Launch} {G : tb_G} (hl : l.stackTraces = false) (n : Nat) (J : zJ) (s : Int) (t : Int) (hr_s : -2147483648 ≤ s ∧ s < 2147483648) (hr_t : -2147483648 ≤ t ∧ t < 2147483648)  (h0 : 0 ≤ t ∧ t < 401) (h1 : 0 ≤ s ∧ s < 401) (h2 : 0 ≤ J 8 t ∧ J 8 t ≤ 3) : tz_Ok l G M_X9_isSame 0 0 0 [.ref 6, zi s, zi t] n J (zqi (fun z J' => J = J' ∧ (z = 0 ∨ z = 1) ∧ (z = 1 ↔ (J 7 s = J 7 t ∧ ∀ j, 0 ≤ j → j < J 8 t → J 9 (s * 3 + j) = J 9 (t * 3 + j))))) zN := by
  refine tz_Ok.of hl (by decide +kernel) rfl (tb_c1 rfl) (Nat.le_of_ble_eq_true rfl) ?_
  show tz_At l G M_X9_isSame (tb_rm 0 0 0) none (tb_ZM G 0 0 (zQ n 0 (zqi (fun z J' => J = J' ∧ (z = 0 ∨ z = 1) ∧ (z = 1 ↔ (J 7 s = J 7 t ∧ ∀ j, 0 ≤ j → j < J 8 t → J 9 (s * 3 + j) = J 9 (t * 3 + j)))))) (zX n 0 zN)) 0 0 n J 0 [some (.ref 6), some (zi s), some (zi t), none, none] []
  refine tz_aload_n (pc := 0) dX9_isSame_0 rfl rfl ?_
  refine tz_fR (pc := 1) dX9_isSame_1 fl_X9_11 r_6_1 ?_
  refine tz_iload_n (pc := 4) dX9_isSame_4 rfl rfl ?_
  refine tz_aL (pc := 5) (z := s) (v := (J 7 s)) dX9_isSame_5 a_7 rfl (by omega) rfl (fun r_5 => ?_)
  refine tz_aload_n (pc := 6) dX9_isSame_6 rfl rfl ?_
  refine tz_fR (pc := 7) dX9_isSame_7 fl_X9_11 r_6_1 ?_
  refine tz_iload_n (pc := 10) dX9_isSame_10 rfl rfl ?_
  refine tz_aL (pc := 11) (z := t) (v := (J 7 t)) dX9_isSame_11 a_7 rfl (by omega) rfl (fun r_11 => ?_)
  have join20 : ∀ (e : Int), (-2147483648 ≤ e ∧ e < 2147483648) → ((e = 0 ∨ e = 1) ∧ (e = 1 ↔ J 7 s = J 7 t)) → tz_At l G M_X9_isSame (tb_rm 0 0 0) none (tb_ZM G 0 0 (zQ n 0 (zqi (fun z J' => J = J' ∧ (z = 0 ∨ z = 1) ∧ (z = 1 ↔ (J 7 s = J 7 t ∧ ∀ j, 0 ≤ j → j < J 8 t → J 9 (s * 3 + j) = J 9 (t * 3 + j)))))) (zX n 0 zN)) 0 0 n J 20 [some (.ref 6), some (zi s), some (zi t), none, none] (zi e :: []) := by
    intro e hr_e
    intro hj_20
    refine tz_istore_n (pc := 20) (L2 := [_, _, _, _, _]) dX9_isSame_20 rfl (by decide) rfl ?_
    refine tz_iconst (pc := 21) dX9_isSame_21 ?_
    refine tz_istore (pc := 22) (L2 := [_, _, _, _, _]) dX9_isSame_22 (by decide) rfl ?_
    have loop24 : ∀ (f9 : Nat) (i : Int) (x : Int), ((3 - i).toNat) < f9 → (0 ≤ i ∧ i ≤ J 8 t) → ((x = 0 ∨ x = 1) ∧ (x = 1 → (J 7 s = J 7 t ∧ ∀ j, 0 ≤ j → j < i → J 9 (s * 3 + j) = J 9 (t * 3 + j))) ∧ (x = 0 → ¬ (J 7 s = J 7 t ∧ ∀ j, 0 ≤ j → j < J 8 t → J 9 (s * 3 + j) = J 9 (t * 3 + j)))) → tz_At l G M_X9_isSame (tb_rm 0 0 0) none (tb_ZM G 0 0 (zQ n 0 (zqi (fun z J' => J = J' ∧ (z = 0 ∨ z = 1) ∧ (z = 1 ↔ (J 7 s = J 7 t ∧ ∀ j, 0 ≤ j → j < J 8 t → J 9 (s * 3 + j) = J 9 (t * 3 + j)))))) (zX n 0 zN)) 0 0 n J 24 [some (.ref 6), some (zi s), some (zi t), some (zi x), some (zi i)] [] := by
      intro f9
      induction f9 with
      | zero => intro i x hm9; exact absurd hm9 (Nat.not_lt_zero _)
      | succ f9 ih24 =>
        intro i x hm24 hi hx
        refine tz_iload (pc := 24) dX9_isSame_24 rfl ?_
        refine tz_aload_n (pc := 26) dX9_isSame_26 rfl rfl ?_
        refine tz_fR (pc := 27) dX9_isSame_27 fl_X9_15 r_6_2 ?_
        refine tz_iload_n (pc := 30) dX9_isSame_30 rfl rfl ?_
        refine tz_aL (pc := 31) (z := t) (v := (J 8 t)) dX9_isSame_31 a_8 rfl (by omega) rfl (fun r_31 => ?_)
        refine tz_icmp_ge (pc := 32) (tgt := 76) dX9_isSame_32 (by decide) (by omega) (by omega) (fun h_32 => ?_) (fun h_32 => ?_)
        · refine tz_iload_n (pc := 76) dX9_isSame_76 rfl rfl ?_
          exact tz_zret (pc := 77) (z := x) dX9_isSame_77 rfl hx.1 (Nat.le_of_ble_eq_true rfl) (Nat.le_of_ble_eq_true rfl) ⟨Nat.le_refl _, Nat.le_add_right _ _⟩ ⟨_, rfl, (by omega), ⟨rfl, hx.1, ⟨fun h => ⟨(hx.2.1 h).1, fun j a b => (hx.2.1 h).2 j a (by omega)⟩, fun h => hx.1.elim (fun h9 => absurd h (hx.2.2 h9)) (fun h9 => h9)⟩⟩⟩
        · refine tz_iload_n (pc := 35) dX9_isSame_35 rfl rfl ?_
          refine tz_if_eq (pc := 36) (tgt := 76) dX9_isSame_36 (by decide) (by omega) (fun h_36 => ?_) (fun h_36 => ?_)
          · refine tz_iload_n (pc := 76) dX9_isSame_76 rfl rfl ?_
            exact tz_zret (pc := 77) (z := x) dX9_isSame_77 rfl hx.1 (Nat.le_of_ble_eq_true rfl) (Nat.le_of_ble_eq_true rfl) ⟨Nat.le_refl _, Nat.le_add_right _ _⟩ ⟨_, rfl, (by omega), ⟨rfl, hx.1, ⟨fun h => ⟨(hx.2.1 h).1, fun j a b => (hx.2.1 h).2 j a (by omega)⟩, fun h => hx.1.elim (fun h9 => absurd h (hx.2.2 h9)) (fun h9 => h9)⟩⟩⟩
          · refine tz_aload_n (pc := 39) dX9_isSame_39 rfl rfl ?_
            refine tz_fR (pc := 40) dX9_isSame_40 fl_X9_18 r_6_3 ?_
            refine tz_iload_n (pc := 43) dX9_isSame_43 rfl rfl ?_
            refine tz_iconst (pc := 44) dX9_isSame_44 ?_
            refine tz_imul (pc := 45) (v := s * 3) dX9_isSame_45 rfl ?_
            refine tz_iload (pc := 46) dX9_isSame_46 rfl ?_
            refine tz_iadd (pc := 48) (v := (s * 3) + i) dX9_isSame_48 rfl ?_
            refine tz_aL (pc := 49) (z := ((s * 3) + i)) (v := (J 9 ((s * 3) + i))) dX9_isSame_49 a_9 rfl (by omega) rfl (fun r_49 => ?_)
            refine tz_aload_n (pc := 50) dX9_isSame_50 rfl rfl ?_
            refine tz_fR (pc := 51) dX9_isSame_51 fl_X9_18 r_6_3 ?_
            refine tz_iload_n (pc := 54) dX9_isSame_54 rfl rfl ?_
            refine tz_iconst (pc := 55) dX9_isSame_55 ?_
            refine tz_imul (pc := 56) (v := t * 3) dX9_isSame_56 rfl ?_
            refine tz_iload (pc := 57) dX9_isSame_57 rfl ?_
            refine tz_iadd (pc := 59) (v := (t * 3) + i) dX9_isSame_59 rfl ?_
            refine tz_aL (pc := 60) (z := ((t * 3) + i)) (v := (J 9 ((t * 3) + i))) dX9_isSame_60 a_9 rfl (by omega) rfl (fun r_60 => ?_)
            have join69 : ∀ (e2 : Int), (-2147483648 ≤ e2 ∧ e2 < 2147483648) → ((e2 = 0 ∨ e2 = 1) ∧ (e2 = 1 ↔ J 9 (s * 3 + i) = J 9 (t * 3 + i))) → tz_At l G M_X9_isSame (tb_rm 0 0 0) none (tb_ZM G 0 0 (zQ n 0 (zqi (fun z J' => J = J' ∧ (z = 0 ∨ z = 1) ∧ (z = 1 ↔ (J 7 s = J 7 t ∧ ∀ j, 0 ≤ j → j < J 8 t → J 9 (s * 3 + j) = J 9 (t * 3 + j)))))) (zX n 0 zN)) 0 0 n J 69 [some (.ref 6), some (zi s), some (zi t), some (zi x), some (zi i)] (zi e2 :: []) := by
              intro e2 hr_e2
              intro hj_69
              refine tz_istore_n (pc := 69) (L2 := [_, _, _, _, _]) dX9_isSame_69 rfl (by decide) rfl ?_
              refine tz_iinc (pc := 70) (z := i + 1) (L2 := [_, _, _, _, _]) dX9_isSame_70 rfl (by omega) rfl ?_
              refine tz_goto (pc := 73) (tgt := 24) dX9_isSame_73 (by decide) ?_
              exact ih24 (i + 1) _ (by omega) (by omega) ⟨hj_69.1, fun h => ⟨(hx.2.1 (by omega)).1, fun j a b => (Decidable.em (j = i)).elim (fun e9 => by rw [e9]; exact hj_69.2.mp h) (fun e9 => (hx.2.1 (by omega)).2 j a (by omega))⟩, fun h g => by have := hj_69.2.mpr (g.2 i (by omega) (by omega)); omega⟩
            refine tz_icmp_ne (pc := 61) (tgt := 68) dX9_isSame_61 (by decide) (by omega) (by omega) (fun h_61 => ?_) (fun h_61 => ?_)
            · refine tz_iconst (pc := 68) dX9_isSame_68 ?_
              exact join69 0 (by decide) (by omega)
            · refine tz_iconst (pc := 64) dX9_isSame_64 ?_
              refine tz_goto (pc := 65) (tgt := 69) dX9_isSame_65 (by decide) ?_
              exact join69 1 (by decide) (by omega)
    exact loop24 _ 0 _ (Nat.lt_succ_self _) (by omega) ⟨hj_20.1, fun h => ⟨hj_20.2.mp h, fun j a b => by omega⟩, fun h g => by have := hj_20.2.mpr g.1; omega⟩
  refine tz_icmp_ne (pc := 12) (tgt := 19) dX9_isSame_12 (by decide) (by omega) (by omega) (fun h_12 => ?_) (fun h_12 => ?_)
  · refine tz_iconst (pc := 19) dX9_isSame_19 ?_
    exact join20 0 (by decide) (by omega)
  · refine tz_iconst (pc := 15) dX9_isSame_15 ?_
    refine tz_goto (pc := 16) (tgt := 20) dX9_isSame_16 (by decide) ?_
    exact join20 1 (by decide) (by omega)

set_option maxHeartbeats 4000000 in
set_option maxRecDepth 100000 in
theorem c_shape {l : Launch} {G : tb_G} (hl : l.stackTraces = false) (n : Nat) (J : zJ) (s : Int) (t : Int) (hr_s : -2147483648 ≤ s ∧ s < 2147483648) (hr_t : -2147483648 ≤ t ∧ t < 2147483648)  (h0 : 0 ≤ t ∧ t < 401) (h1 : 0 ≤ s ∧ s < 401) (h2 : 0 ≤ J 8 t ∧ J 8 t ≤ 3) (h3 : J 7 t < 0 → J 8 t = 0) (h4 : ∀ i, 0 ≤ i → i < J 8 t → 0 ≤ J 9 (t * 3 + i) ∧ J 9 (t * 3 + i) < 401) (h5 : J 7 s = J 7 t → ∀ i, 0 ≤ i → i < J 8 t → 0 ≤ J 9 (s * 3 + i) ∧ J 9 (s * 3 + i) < 401) : tz_Ok l G M_X9_hasShapeOf 0 0 0 [.ref 6, zi s, zi t] n J (zqi (fun z J' => J = J' ∧ (z = 0 ∨ z = 1) ∧ (z = 1 ↔ ((J 7 s = J 7 t ∨ (J 7 s < 0 ∧ J 7 t < 0)) ∧ ∀ j, 0 ≤ j → j < J 8 t → J 14 (J 9 (s * 3 + j)) = J 14 (J 9 (t * 3 + j)))))) zN := by
  refine tz_Ok.of hl (by decide +kernel) rfl (tb_c1 rfl) (Nat.le_of_ble_eq_true rfl) ?_
  show tz_At l G M_X9_hasShapeOf (tb_rm 0 0 0) none (tb_ZM G 0 0 (zQ n 0 (zqi (fun z J' => J = J' ∧ (z = 0 ∨ z = 1) ∧ (z = 1 ↔ ((J 7 s = J 7 t ∨ (J 7 s < 0 ∧ J 7 t < 0)) ∧ ∀ j, 0 ≤ j → j < J 8 t → J 14 (J 9 (s * 3 + j)) = J 14 (J 9 (t * 3 + j))))))) (zX n 0 zN)) 0 0 n J 0 [some (.ref 6), some (zi s), some (zi t), none, none] []
  refine tz_aload_n (pc := 0) dX9_hasShapeOf_0 rfl rfl ?_
  refine tz_fR (pc := 1) dX9_hasShapeOf_1 fl_X9_11 r_6_1 ?_
  refine tz_iload_n (pc := 4) dX9_hasShapeOf_4 rfl rfl ?_
  refine tz_aL (pc := 5) (z := s) (v := (J 7 s)) dX9_hasShapeOf_5 a_7 rfl (by omega) rfl (fun r_5 => ?_)
  refine tz_aload_n (pc := 6) dX9_hasShapeOf_6 rfl rfl ?_
  refine tz_fR (pc := 7) dX9_hasShapeOf_7 fl_X9_11 r_6_1 ?_
  refine tz_iload_n (pc := 10) dX9_hasShapeOf_10 rfl rfl ?_
  refine tz_aL (pc := 11) (z := t) (v := (J 7 t)) dX9_hasShapeOf_11 a_7 rfl (by omega) rfl (fun r_11 => ?_)
  have join38 : ∀ (e : Int), (-2147483648 ≤ e ∧ e < 2147483648) → ((e = 0 ∨ e = 1) ∧ (e = 1 ↔ (J 7 s = J 7 t ∨ (J 7 s < 0 ∧ J 7 t < 0)))) → tz_At l G M_X9_hasShapeOf (tb_rm 0 0 0) none (tb_ZM G 0 0 (zQ n 0 (zqi (fun z J' => J = J' ∧ (z = 0 ∨ z = 1) ∧ (z = 1 ↔ ((J 7 s = J 7 t ∨ (J 7 s < 0 ∧ J 7 t < 0)) ∧ ∀ j, 0 ≤ j → j < J 8 t → J 14 (J 9 (s * 3 + j)) = J 14 (J 9 (t * 3 + j))))))) (zX n 0 zN)) 0 0 n J 38 [some (.ref 6), some (zi s), some (zi t), none, none] (zi e :: []) := by
    intro e hr_e
    intro hj_38
    refine tz_istore_n (pc := 38) (L2 := [_, _, _, _, _]) dX9_hasShapeOf_38 rfl (by decide) rfl ?_
    refine tz_iconst (pc := 39) dX9_hasShapeOf_39 ?_
    refine tz_istore (pc := 40) (L2 := [_, _, _, _, _]) dX9_hasShapeOf_40 (by decide) rfl ?_
    have loop42 : ∀ (f9 : Nat) (i : Int) (x : Int), ((3 - i).toNat) < f9 → (0 ≤ i ∧ i ≤ J 8 t) → ((x = 0 ∨ x = 1) ∧ (x = 1 → ((J 7 s = J 7 t ∨ (J 7 s < 0 ∧ J 7 t < 0)) ∧ ∀ j, 0 ≤ j → j < i → J 14 (J 9 (s * 3 + j)) = J 14 (J 9 (t * 3 + j)))) ∧ (x = 0 → ¬ ((J 7 s = J 7 t ∨ (J 7 s < 0 ∧ J 7 t < 0)) ∧ ∀ j, 0 ≤ j → j < J 8 t → J 14 (J 9 (s * 3 + j)) = J 14 (J 9 (t * 3 + j))))) → tz_At l G M_X9_hasShapeOf (tb_rm 0 0 0) none (tb_ZM G 0 0 (zQ n 0 (zqi (fun z J' => J = J' ∧ (z = 0 ∨ z = 1) ∧ (z = 1 ↔ ((J 7 s = J 7 t ∨ (J 7 s < 0 ∧ J 7 t < 0)) ∧ ∀ j, 0 ≤ j → j < J 8 t → J 14 (J 9 (s * 3 + j)) = J 14 (J 9 (t * 3 + j))))))) (zX n 0 zN)) 0 0 n J 42 [some (.ref 6), some (zi s), some (zi t), some (zi x), some (zi i)] [] := by
      intro f9
      induction f9 with
      | zero => intro i x hm9; exact absurd hm9 (Nat.not_lt_zero _)
      | succ f9 ih42 =>
        intro i x hm42 hi hx
        refine tz_iload (pc := 42) dX9_hasShapeOf_42 rfl ?_
        refine tz_aload_n (pc := 44) dX9_hasShapeOf_44 rfl rfl ?_
        refine tz_fR (pc := 45) dX9_hasShapeOf_45 fl_X9_15 r_6_2 ?_
        refine tz_iload_n (pc := 48) dX9_hasShapeOf_48 rfl rfl ?_
        refine tz_aL (pc := 49) (z := t) (v := (J 8 t)) dX9_hasShapeOf_49 a_8 rfl (by omega) rfl (fun r_49 => ?_)
        refine tz_icmp_ge (pc := 50) (tgt := 104) dX9_hasShapeOf_50 (by decide) (by omega) (by omega) (fun h_50 => ?_) (fun h_50 => ?_)
        · refine tz_iload_n (pc := 104) dX9_hasShapeOf_104 rfl rfl ?_
          exact tz_zret (pc := 105) (z := x) dX9_hasShapeOf_105 rfl hx.1 (Nat.le_of_ble_eq_true rfl) (Nat.le_of_ble_eq_true rfl) ⟨Nat.le_refl _, Nat.le_add_right _ _⟩ ⟨_, rfl, (by omega), ⟨rfl, hx.1, ⟨fun h => ⟨(hx.2.1 h).1, fun j a b => (hx.2.1 h).2 j a (by omega)⟩, fun h => hx.1.elim (fun h9 => absurd h (hx.2.2 h9)) (fun h9 => h9)⟩⟩⟩
        · refine tz_iload_n (pc := 53) dX9_hasShapeOf_53 rfl rfl ?_
          refine tz_if_eq (pc := 54) (tgt := 104) dX9_hasShapeOf_54 (by decide) (by omega) (fun h_54 => ?_) (fun h_54 => ?_)
          · refine tz_iload_n (pc := 104) dX9_hasShapeOf_104 rfl rfl ?_
            exact tz_zret (pc := 105) (z := x) dX9_hasShapeOf_105 rfl hx.1 (Nat.le_of_ble_eq_true rfl) (Nat.le_of_ble_eq_true rfl) ⟨Nat.le_refl _, Nat.le_add_right _ _⟩ ⟨_, rfl, (by omega), ⟨rfl, hx.1, ⟨fun h => ⟨(hx.2.1 h).1, fun j a b => (hx.2.1 h).2 j a (by omega)⟩, fun h => hx.1.elim (fun h9 => absurd h (hx.2.2 h9)) (fun h9 => h9)⟩⟩⟩
          · have hp := h4 i (by omega) (by omega)
            have hp2 := h5 (by have := (hx.2.1 (by omega)).1; omega) i (by omega) (by omega)
            refine tz_aload_n (pc := 57) dX9_hasShapeOf_57 rfl rfl ?_
            refine tz_fR (pc := 58) dX9_hasShapeOf_58 fl_X9_33 r_6_8 ?_
            refine tz_aload_n (pc := 61) dX9_hasShapeOf_61 rfl rfl ?_
            refine tz_fR (pc := 62) dX9_hasShapeOf_62 fl_X9_18 r_6_3 ?_
            refine tz_iload_n (pc := 65) dX9_hasShapeOf_65 rfl rfl ?_
            refine tz_iconst (pc := 66) dX9_hasShapeOf_66 ?_
            refine tz_imul (pc := 67) (v := s * 3) dX9_hasShapeOf_67 rfl ?_
            refine tz_iload (pc := 68) dX9_hasShapeOf_68 rfl ?_
            refine tz_iadd (pc := 70) (v := (s * 3) + i) dX9_hasShapeOf_70 rfl ?_
            refine tz_aL (pc := 71) (z := ((s * 3) + i)) (v := (J 9 ((s * 3) + i))) dX9_hasShapeOf_71 a_9 rfl (by omega) rfl (fun r_71 => ?_)
            refine tz_aL (pc := 72) (z := (J 9 ((s * 3) + i))) (v := (J 14 (J 9 ((s * 3) + i)))) dX9_hasShapeOf_72 a_14 rfl (by omega) rfl (fun r_72 => ?_)
            refine tz_aload_n (pc := 73) dX9_hasShapeOf_73 rfl rfl ?_
            refine tz_fR (pc := 74) dX9_hasShapeOf_74 fl_X9_33 r_6_8 ?_
            refine tz_aload_n (pc := 77) dX9_hasShapeOf_77 rfl rfl ?_
            refine tz_fR (pc := 78) dX9_hasShapeOf_78 fl_X9_18 r_6_3 ?_
            refine tz_iload_n (pc := 81) dX9_hasShapeOf_81 rfl rfl ?_
            refine tz_iconst (pc := 82) dX9_hasShapeOf_82 ?_
            refine tz_imul (pc := 83) (v := t * 3) dX9_hasShapeOf_83 rfl ?_
            refine tz_iload (pc := 84) dX9_hasShapeOf_84 rfl ?_
            refine tz_iadd (pc := 86) (v := (t * 3) + i) dX9_hasShapeOf_86 rfl ?_
            refine tz_aL (pc := 87) (z := ((t * 3) + i)) (v := (J 9 ((t * 3) + i))) dX9_hasShapeOf_87 a_9 rfl (by omega) rfl (fun r_87 => ?_)
            refine tz_aL (pc := 88) (z := (J 9 ((t * 3) + i))) (v := (J 14 (J 9 ((t * 3) + i)))) dX9_hasShapeOf_88 a_14 rfl (by omega) rfl (fun r_88 => ?_)
            have join97 : ∀ (e2 : Int), (-2147483648 ≤ e2 ∧ e2 < 2147483648) → ((e2 = 0 ∨ e2 = 1) ∧ (e2 = 1 ↔ J 14 (J 9 (s * 3 + i)) = J 14 (J 9 (t * 3 + i)))) → tz_At l G M_X9_hasShapeOf (tb_rm 0 0 0) none (tb_ZM G 0 0 (zQ n 0 (zqi (fun z J' => J = J' ∧ (z = 0 ∨ z = 1) ∧ (z = 1 ↔ ((J 7 s = J 7 t ∨ (J 7 s < 0 ∧ J 7 t < 0)) ∧ ∀ j, 0 ≤ j → j < J 8 t → J 14 (J 9 (s * 3 + j)) = J 14 (J 9 (t * 3 + j))))))) (zX n 0 zN)) 0 0 n J 97 [some (.ref 6), some (zi s), some (zi t), some (zi x), some (zi i)] (zi e2 :: []) := by
              intro e2 hr_e2
              intro hj_97
              refine tz_istore_n (pc := 97) (L2 := [_, _, _, _, _]) dX9_hasShapeOf_97 rfl (by decide) rfl ?_
              refine tz_iinc (pc := 98) (z := i + 1) (L2 := [_, _, _, _, _]) dX9_hasShapeOf_98 rfl (by omega) rfl ?_
              refine tz_goto (pc := 101) (tgt := 42) dX9_hasShapeOf_101 (by decide) ?_
              exact ih42 (i + 1) _ (by omega) (by omega) ⟨hj_97.1, fun h => ⟨(hx.2.1 (by omega)).1, fun j a b => (Decidable.em (j = i)).elim (fun e9 => by rw [e9]; exact hj_97.2.mp h) (fun e9 => (hx.2.1 (by omega)).2 j a (by omega))⟩, fun h g => by have := hj_97.2.mpr (g.2 i (by omega) (by omega)); omega⟩
            refine tz_icmp_ne (pc := 89) (tgt := 96) dX9_hasShapeOf_89 (by decide) (by omega) (by omega) (fun h_89 => ?_) (fun h_89 => ?_)
            · refine tz_iconst (pc := 96) dX9_hasShapeOf_96 ?_
              exact join97 0 (by decide) (by omega)
            · refine tz_iconst (pc := 92) dX9_hasShapeOf_92 ?_
              refine tz_goto (pc := 93) (tgt := 97) dX9_hasShapeOf_93 (by decide) ?_
              exact join97 1 (by decide) (by omega)
    exact loop42 _ 0 _ (Nat.lt_succ_self _) (by omega) ⟨hj_38.1, fun h => ⟨hj_38.2.mp h, fun j a b => by omega⟩, fun h g => by have := hj_38.2.mpr g.1; omega⟩
  refine tz_icmp_eq (pc := 12) (tgt := 33) dX9_hasShapeOf_12 (by decide) (by omega) (by omega) (fun h_12 => ?_) (fun h_12 => ?_)
  · refine tz_iconst (pc := 33) dX9_hasShapeOf_33 ?_
    refine tz_goto (pc := 34) (tgt := 38) dX9_hasShapeOf_34 (by decide) ?_
    exact join38 1 (by decide) (by omega)
  · refine tz_aload_n (pc := 15) dX9_hasShapeOf_15 rfl rfl ?_
    refine tz_fR (pc := 16) dX9_hasShapeOf_16 fl_X9_11 r_6_1 ?_
    refine tz_iload_n (pc := 19) dX9_hasShapeOf_19 rfl rfl ?_
    refine tz_aL (pc := 20) (z := s) (v := (J 7 s)) dX9_hasShapeOf_20 a_7 rfl (by omega) rfl (fun r_20 => ?_)
    refine tz_if_ge (pc := 21) (tgt := 37) dX9_hasShapeOf_21 (by decide) (by omega) (fun h_21 => ?_) (fun h_21 => ?_)
    · refine tz_iconst (pc := 37) dX9_hasShapeOf_37 ?_
      exact join38 0 (by decide) (by omega)
    · refine tz_aload_n (pc := 24) dX9_hasShapeOf_24 rfl rfl ?_
      refine tz_fR (pc := 25) dX9_hasShapeOf_25 fl_X9_11 r_6_1 ?_
      refine tz_iload_n (pc := 28) dX9_hasShapeOf_28 rfl rfl ?_
      refine tz_aL (pc := 29) (z := t) (v := (J 7 t)) dX9_hasShapeOf_29 a_7 rfl (by omega) rfl (fun r_29 => ?_)
      refine tz_if_ge (pc := 30) (tgt := 37) dX9_hasShapeOf_30 (by decide) (by omega) (fun h_30 => ?_) (fun h_30 => ?_)
      · refine tz_iconst (pc := 37) dX9_hasShapeOf_37 ?_
        exact join38 0 (by decide) (by omega)
      · refine tz_iconst (pc := 33) dX9_hasShapeOf_33 ?_
        refine tz_goto (pc := 34) (tgt := 38) dX9_hasShapeOf_34 (by decide) ?_
        exact join38 1 (by decide) (by omega)

set_option maxHeartbeats 4000000 in
set_option maxRecDepth 100000 in
theorem c_meas0 {l : Launch} {G : tb_G} (hl : l.stackTraces = false) (n : Nat) (J : zJ) (t : Int) (hr_t : -2147483648 ≤ t ∧ t < 2147483648)  (h0 : 0 ≤ t ∧ t < 401) (hw : 0 ≤ J 11 t ∧ J 11 t ≤ 9) (hp : ∀ i, 0 ≤ i → i < J 8 t → (0 ≤ J 9 (t * 3 + i) ∧ J 9 (t * 3 + i) < t) ∧ (0 ≤ J 10 (J 9 (t * 3 + i)) ∧ J 10 (J 9 (t * 3 + i)) ≤ 364) ∧ (0 ≤ J 11 (J 9 (t * 3 + i)) ∧ J 11 (J 9 (t * 3 + i)) ≤ 4000) ∧ 0 ≤ J 12 (J 9 (t * 3 + i)) ∧ J 12 (J 9 (t * 3 + i)) ≤ 6) (ha : J 8 t = 0) : tz_Ok l G M_X9_measure 1 0 0 [.ref 6, zi t] n J (zqv (fun J' => zOf (zbut [10, 11, 12, 13]) J' J ∧ (∀ k, ¬ k = t → J' 10 k = J 10 k ∧ J' 11 k = J 11 k ∧ J' 12 k = J 12 k ∧ J' 13 k = J 13 k) ∧ J' 10 t = 1 + zs3 J t ∧ J' 11 t = J 11 t + zw3 J t ∧ J' 12 t = zd3 J t ∧ J' 13 t = zv3 J t)) zN := by
  refine tz_Ok.of hl (by decide +kernel) rfl (tb_c1 rfl) (Nat.le_of_ble_eq_true rfl) ?_
  show tz_At l G M_X9_measure (tb_rm 1 0 0) none (tb_ZM G 0 0 (zQ n 0 (zqv (fun J' => zOf (zbut [10, 11, 12, 13]) J' J ∧ (∀ k, ¬ k = t → J' 10 k = J 10 k ∧ J' 11 k = J 11 k ∧ J' 12 k = J 12 k ∧ J' 13 k = J 13 k) ∧ J' 10 t = 1 + zs3 J t ∧ J' 11 t = J 11 t + zw3 J t ∧ J' 12 t = zd3 J t ∧ J' 13 t = zv3 J t))) (zX n 0 zN)) 0 0 n J 0 [some (.ref 6), some (zi t), none, none] []
  refine tz_aload_n (pc := 0) dX9_measure_0 rfl rfl ?_
  refine tz_fR (pc := 1) dX9_measure_1 fl_X9_21 r_6_4 ?_
  refine tz_iload_n (pc := 4) dX9_measure_4 rfl rfl ?_
  refine tz_iconst (pc := 5) dX9_measure_5 ?_
  refine tz_aS (pc := 6) (z := t) dX9_measure_6 a_10 rfl (by omega) (by decide) ?_
  refine tz_aload_n (pc := 7) dX9_measure_7 rfl rfl ?_
  refine tz_fR (pc := 8) dX9_measure_8 fl_X9_27 r_6_6 ?_
  refine tz_iload_n (pc := 11) dX9_measure_11 rfl rfl ?_
  refine tz_iconst (pc := 12) dX9_measure_12 ?_
  refine tz_aS (pc := 13) (z := t) dX9_measure_13 a_12 rfl (by omega) (by decide) ?_
  refine tz_aload_n (pc := 14) dX9_measure_14 rfl rfl ?_
  refine tz_fR (pc := 15) dX9_measure_15 fl_X9_30 r_6_7 ?_
  refine tz_iload_n (pc := 18) dX9_measure_18 rfl rfl ?_
  refine tz_aload_n (pc := 19) dX9_measure_19 rfl rfl ?_
  refine tz_fR (pc := 20) dX9_measure_20 fl_X9_11 r_6_1 ?_
  refine tz_iload_n (pc := 23) dX9_measure_23 rfl rfl ?_
  refine tz_aL (pc := 24) (z := t) (v := (J 7 t)) dX9_measure_24 a_7 rfl (by omega) rfl (fun r_24 => ?_)
  have join42 : ∀ (v0 : Int), (-2147483648 ≤ v0 ∧ v0 < 2147483648) → (v0 = zv0 J t) → tz_At l G M_X9_measure (tb_rm 1 0 0) none (tb_ZM G 0 0 (zQ n 0 (zqv (fun J' => zOf (zbut [10, 11, 12, 13]) J' J ∧ (∀ k, ¬ k = t → J' 10 k = J 10 k ∧ J' 11 k = J 11 k ∧ J' 12 k = J 12 k ∧ J' 13 k = J 13 k) ∧ J' 10 t = 1 + zs3 J t ∧ J' 11 t = J 11 t + zw3 J t ∧ J' 12 t = zd3 J t ∧ J' 13 t = zv3 J t))) (zX n 0 zN)) 0 0 n (zup (zup J 10 t 1) 12 t 1) 42 [some (.ref 6), some (zi t), none, none] (zi v0 :: zi t :: .ref 13 :: []) := by
    intro v0 hr_v0
    intro hj_42
    refine tz_aS (pc := 42) (z := t) dX9_measure_42 a_13 rfl (by omega) (by omega) ?_
    refine tz_iconst (pc := 43) dX9_measure_43 ?_
    refine tz_istore_n (pc := 44) (L2 := [_, _, _, _]) dX9_measure_44 rfl (by decide) rfl ?_
    refine tz_iload_n (pc := 45) dX9_measure_45 rfl rfl ?_
    refine tz_aload_n (pc := 46) dX9_measure_46 rfl rfl ?_
    refine tz_fR (pc := 47) dX9_measure_47 fl_X9_15 r_6_2 ?_
    refine tz_iload_n (pc := 50) dX9_measure_50 rfl rfl ?_
    refine tz_aL (pc := 51) (z := t) (v := 0) dX9_measure_51 a_8 rfl (by omega) ha (fun _ => ?_)
    refine tz_icmp_geT (pc := 52) (tgt := 140) (by decide) dX9_measure_52 (by decide) (by decide) (by decide) ?_
    exact tz_vret (pc := 140) dX9_measure_140 rfl (Nat.le_of_ble_eq_true rfl) (Nat.le_of_ble_eq_true rfl) ⟨Nat.le_refl _, Nat.le_add_right _ _⟩ ⟨rfl, ⟨(zOf.up rfl (zOf.up rfl (zOf.up rfl zOf.rf))), fun k hk => ⟨by simp [zup, hk], by simp [zup, hk], by simp [zup, hk], by simp [zup, hk]⟩, (Eq.trans (b := 1) (by simp [zup]) (by simp [zs3, ha] <;> omega)), (Eq.trans (b := (J 11 t)) rfl (by simp [zw3, ha] <;> omega)), (Eq.trans (b := 1) (by simp [zup]) (by simp [zd3, ha] <;> omega)), (Eq.trans (b := v0) (by simp [zup]) (by simp [zv3, ha, hj_42]))⟩⟩
  refine tz_if_ge (pc := 25) (tgt := 41) dX9_measure_25 (by decide) (by omega) (fun h_25 => ?_) (fun h_25 => ?_)
  · refine tz_iconst (pc := 41) dX9_measure_41 ?_
    exact join42 0 (by decide) (by unfold zv0; split <;> first | rfl | omega)
  · refine tz_iconst (pc := 28) dX9_measure_28 ?_
    refine tz_aload_n (pc := 29) dX9_measure_29 rfl rfl ?_
    refine tz_fR (pc := 30) dX9_measure_30 fl_X9_11 r_6_1 ?_
    refine tz_iload_n (pc := 33) dX9_measure_33 rfl rfl ?_
    refine tz_aL (pc := 34) (z := t) (v := (J 7 t)) dX9_measure_34 a_7 rfl (by omega) rfl (fun r_34 => ?_)
    refine tz_iconst (pc := 35) dX9_measure_35 ?_
    refine tz_ixor (pc := 36) (v := zxor (J 7 t) (-1)) dX9_measure_36 rfl ?_
    refine tz_ishl (pc := 37) (v := zshl 1 (zxor (J 7 t) (-1))) dX9_measure_37 rfl ?_
    refine tz_goto (pc := 38) (tgt := 42) dX9_measure_38 (by decide) ?_
    exact join42 (zshl 1 (zxor (J 7 t) (-1))) (zshl_rg _ _) (by unfold zv0; split <;> first | rfl | omega)

set_option maxHeartbeats 4000000 in
set_option maxRecDepth 100000 in
theorem c_meas1 {l : Launch} {G : tb_G} (hl : l.stackTraces = false) (n : Nat) (J : zJ) (t : Int) (hr_t : -2147483648 ≤ t ∧ t < 2147483648)  (h0 : 0 ≤ t ∧ t < 401) (hw : 0 ≤ J 11 t ∧ J 11 t ≤ 9) (hp : ∀ i, 0 ≤ i → i < J 8 t → (0 ≤ J 9 (t * 3 + i) ∧ J 9 (t * 3 + i) < t) ∧ (0 ≤ J 10 (J 9 (t * 3 + i)) ∧ J 10 (J 9 (t * 3 + i)) ≤ 364) ∧ (0 ≤ J 11 (J 9 (t * 3 + i)) ∧ J 11 (J 9 (t * 3 + i)) ≤ 4000) ∧ 0 ≤ J 12 (J 9 (t * 3 + i)) ∧ J 12 (J 9 (t * 3 + i)) ≤ 6) (ha : J 8 t = 1) : tz_Ok l G M_X9_measure 1 0 0 [.ref 6, zi t] n J (zqv (fun J' => zOf (zbut [10, 11, 12, 13]) J' J ∧ (∀ k, ¬ k = t → J' 10 k = J 10 k ∧ J' 11 k = J 11 k ∧ J' 12 k = J 12 k ∧ J' 13 k = J 13 k) ∧ J' 10 t = 1 + zs3 J t ∧ J' 11 t = J 11 t + zw3 J t ∧ J' 12 t = zd3 J t ∧ J' 13 t = zv3 J t)) zN := by
  refine tz_Ok.of hl (by decide +kernel) rfl (tb_c1 rfl) (Nat.le_of_ble_eq_true rfl) ?_
  show tz_At l G M_X9_measure (tb_rm 1 0 0) none (tb_ZM G 0 0 (zQ n 0 (zqv (fun J' => zOf (zbut [10, 11, 12, 13]) J' J ∧ (∀ k, ¬ k = t → J' 10 k = J 10 k ∧ J' 11 k = J 11 k ∧ J' 12 k = J 12 k ∧ J' 13 k = J 13 k) ∧ J' 10 t = 1 + zs3 J t ∧ J' 11 t = J 11 t + zw3 J t ∧ J' 12 t = zd3 J t ∧ J' 13 t = zv3 J t))) (zX n 0 zN)) 0 0 n J 0 [some (.ref 6), some (zi t), none, none] []
  have hp0 := hp 0 (by decide) (by omega)
  refine tz_aload_n (pc := 0) dX9_measure_0 rfl rfl ?_
  refine tz_fR (pc := 1) dX9_measure_1 fl_X9_21 r_6_4 ?_
  refine tz_iload_n (pc := 4) dX9_measure_4 rfl rfl ?_
  refine tz_iconst (pc := 5) dX9_measure_5 ?_
  refine tz_aS (pc := 6) (z := t) dX9_measure_6 a_10 rfl (by omega) (by decide) ?_
  refine tz_aload_n (pc := 7) dX9_measure_7 rfl rfl ?_
  refine tz_fR (pc := 8) dX9_measure_8 fl_X9_27 r_6_6 ?_
  refine tz_iload_n (pc := 11) dX9_measure_11 rfl rfl ?_
  refine tz_iconst (pc := 12) dX9_measure_12 ?_
  refine tz_aS (pc := 13) (z := t) dX9_measure_13 a_12 rfl (by omega) (by decide) ?_
  refine tz_aload_n (pc := 14) dX9_measure_14 rfl rfl ?_
  refine tz_fR (pc := 15) dX9_measure_15 fl_X9_30 r_6_7 ?_
  refine tz_iload_n (pc := 18) dX9_measure_18 rfl rfl ?_
  refine tz_aload_n (pc := 19) dX9_measure_19 rfl rfl ?_
  refine tz_fR (pc := 20) dX9_measure_20 fl_X9_11 r_6_1 ?_
  refine tz_iload_n (pc := 23) dX9_measure_23 rfl rfl ?_
  refine tz_aL (pc := 24) (z := t) (v := (J 7 t)) dX9_measure_24 a_7 rfl (by omega) rfl (fun r_24 => ?_)
  have join42 : ∀ (v0 : Int), (-2147483648 ≤ v0 ∧ v0 < 2147483648) → (v0 = zv0 J t) → tz_At l G M_X9_measure (tb_rm 1 0 0) none (tb_ZM G 0 0 (zQ n 0 (zqv (fun J' => zOf (zbut [10, 11, 12, 13]) J' J ∧ (∀ k, ¬ k = t → J' 10 k = J 10 k ∧ J' 11 k = J 11 k ∧ J' 12 k = J 12 k ∧ J' 13 k = J 13 k) ∧ J' 10 t = 1 + zs3 J t ∧ J' 11 t = J 11 t + zw3 J t ∧ J' 12 t = zd3 J t ∧ J' 13 t = zv3 J t))) (zX n 0 zN)) 0 0 n (zup (zup J 10 t 1) 12 t 1) 42 [some (.ref 6), some (zi t), none, none] (zi v0 :: zi t :: .ref 13 :: []) := by
    intro v0 hr_v0
    intro hj_42
    refine tz_aS (pc := 42) (z := t) dX9_measure_42 a_13 rfl (by omega) (by omega) ?_
    refine tz_iconst (pc := 43) dX9_measure_43 ?_
    refine tz_istore_n (pc := 44) (L2 := [_, _, _, _]) dX9_measure_44 rfl (by decide) rfl ?_
    refine tz_iload_n (pc := 45) dX9_measure_45 rfl rfl ?_
    refine tz_aload_n (pc := 46) dX9_measure_46 rfl rfl ?_
    refine tz_fR (pc := 47) dX9_measure_47 fl_X9_15 r_6_2 ?_
    refine tz_iload_n (pc := 50) dX9_measure_50 rfl rfl ?_
    refine tz_aL (pc := 51) (z := t) (v := 1) dX9_measure_51 a_8 rfl (by omega) ha (fun _ => ?_)
    refine tz_icmp_geF (pc := 52) (tgt := 140) (by decide) dX9_measure_52 (by decide) (by decide) (by decide) ?_
    refine tz_aload_n (pc := 55) dX9_measure_55 rfl rfl ?_
    refine tz_fR (pc := 56) dX9_measure_56 fl_X9_18 r_6_3 ?_
    refine tz_iload_n (pc := 59) dX9_measure_59 rfl rfl ?_
    refine tz_iconst (pc := 60) dX9_measure_60 ?_
    refine tz_imul (pc := 61) (v := t * 3) dX9_measure_61 rfl ?_
    refine tz_iload_n (pc := 62) dX9_measure_62 rfl rfl ?_
    refine tz_iadd (pc := 63) (v := (t * 3) + 0) dX9_measure_63 rfl ?_
    refine tz_aL (pc := 64) (z := ((t * 3) + 0)) (v := (J 9 ((t * 3) + 0))) dX9_measure_64 a_9 rfl (by omega) rfl (fun r_64 => ?_)
    refine tz_istore_n (pc := 65) (L2 := [_, _, _, _]) dX9_measure_65 rfl (by decide) rfl ?_
    refine tz_aload_n (pc := 66) dX9_measure_66 rfl rfl ?_
    refine tz_fR (pc := 67) dX9_measure_67 fl_X9_21 r_6_4 ?_
    refine tz_iload_n (pc := 70) dX9_measure_70 rfl rfl ?_
    refine tz_dup2 (pc := 71) dX9_measure_71 rfl rfl ?_
    refine tz_aL (pc := 72) (z := t) (v := 1) dX9_measure_72 a_10 rfl (by omega) (by simp [zup]) (fun _ => ?_)
    refine tz_aload_n (pc := 73) dX9_measure_73 rfl rfl ?_
    refine tz_fR (pc := 74) dX9_measure_74 fl_X9_21 r_6_4 ?_
    refine tz_iload_n (pc := 77) dX9_measure_77 rfl rfl ?_
    refine tz_aL (pc := 78) (z := (J 9 ((t * 3) + 0))) (v := (J 10 (J 9 ((t * 3) + 0)))) dX9_measure_78 a_10 rfl (by omega) (Eq.trans (show zup _ 10 t 1 10 (J 9 ((t * 3) + 0)) = _ from zup_ne (by omega)) rfl) (fun r_78 => ?_)
    refine tz_iadd (pc := 79) (v := 1 + (J 10 (J 9 ((t * 3) + 0)))) dX9_measure_79 rfl ?_
    refine tz_aS (pc := 80) (z := t) dX9_measure_80 a_10 rfl (by omega) (by omega) ?_
    refine tz_aload_n (pc := 81) dX9_measure_81 rfl rfl ?_
    refine tz_fR (pc := 82) dX9_measure_82 fl_X9_24 r_6_5 ?_
    refine tz_iload_n (pc := 85) dX9_measure_85 rfl rfl ?_
    refine tz_dup2 (pc := 86) dX9_measure_86 rfl rfl ?_
    refine tz_aL (pc := 87) (z := t) (v := (J 11 t)) dX9_measure_87 a_11 rfl (by omega) rfl (fun r_87 => ?_)
    refine tz_aload_n (pc := 88) dX9_measure_88 rfl rfl ?_
    refine tz_fR (pc := 89) dX9_measure_89 fl_X9_24 r_6_5 ?_
    refine tz_iload_n (pc := 92) dX9_measure_92 rfl rfl ?_
    refine tz_aL (pc := 93) (z := (J 9 ((t * 3) + 0))) (v := (J 11 (J 9 ((t * 3) + 0)))) dX9_measure_93 a_11 rfl (by omega) rfl (fun r_93 => ?_)
    refine tz_iadd (pc := 94) (v := (J 11 t) + (J 11 (J 9 ((t * 3) + 0)))) dX9_measure_94 rfl ?_
    refine tz_aS (pc := 95) (z := t) dX9_measure_95 a_11 rfl (by omega) (by omega) ?_
    refine tz_aload_n (pc := 96) dX9_measure_96 rfl rfl ?_
    refine tz_fR (pc := 97) dX9_measure_97 fl_X9_27 r_6_6 ?_
    refine tz_iload_n (pc := 100) dX9_measure_100 rfl rfl ?_
    refine tz_aload_n (pc := 101) dX9_measure_101 rfl rfl ?_
    refine tz_fR (pc := 102) dX9_measure_102 fl_X9_27 r_6_6 ?_
    refine tz_iload_n (pc := 105) dX9_measure_105 rfl rfl ?_
    refine tz_aL (pc := 106) (z := t) (v := 1) dX9_measure_106 a_12 rfl (by omega) (by simp [zup]) (fun _ => ?_)
    refine tz_aload_n (pc := 107) dX9_measure_107 rfl rfl ?_
    refine tz_fR (pc := 108) dX9_measure_108 fl_X9_27 r_6_6 ?_
    refine tz_iload_n (pc := 111) dX9_measure_111 rfl rfl ?_
    refine tz_aL (pc := 112) (z := (J 9 ((t * 3) + 0))) (v := (J 12 (J 9 ((t * 3) + 0)))) dX9_measure_112 a_12 rfl (by omega) (Eq.trans (show zup _ 12 t 1 12 (J 9 ((t * 3) + 0)) = _ from zup_ne (by omega)) rfl) (fun r_112 => ?_)
    refine tz_iconst (pc := 113) dX9_measure_113 ?_
    refine tz_iadd (pc := 114) (v := (J 12 (J 9 ((t * 3) + 0))) + 1) dX9_measure_114 rfl ?_
    have hm_115 := zmax_le 1 ((J 12 (J 9 ((t * 3) + 0))) + 1)
    refine tz_mx (pc := 115) (v := zmax 1 ((J 12 (J 9 ((t * 3) + 0))) + 1)) dX9_measure_115 ml_X9_86 (Nat.le_of_ble_eq_true rfl) (Nat.le_of_ble_eq_true rfl) (Nat.le_of_ble_eq_true rfl) (Nat.le_of_ble_eq_true rfl) (by decide) (by omega) rfl ?_
    refine tz_aS (pc := 118) (z := t) dX9_measure_118 a_12 rfl (by omega) (by omega) ?_
    refine tz_aload_n (pc := 119) dX9_measure_119 rfl rfl ?_
    refine tz_fR (pc := 120) dX9_measure_120 fl_X9_30 r_6_7 ?_
    refine tz_iload_n (pc := 123) dX9_measure_123 rfl rfl ?_
    refine tz_dup2 (pc := 124) dX9_measure_124 rfl rfl ?_
    refine tz_aL (pc := 125) (z := t) (v := v0) dX9_measure_125 a_13 rfl (by omega) (by simp [zup]) (fun r_125 => ?_)
    refine tz_aload_n (pc := 126) dX9_measure_126 rfl rfl ?_
    refine tz_fR (pc := 127) dX9_measure_127 fl_X9_30 r_6_7 ?_
    refine tz_iload_n (pc := 130) dX9_measure_130 rfl rfl ?_
    refine tz_aL (pc := 131) (z := (J 9 ((t * 3) + 0))) (v := (J 13 (J 9 ((t * 3) + 0)))) dX9_measure_131 a_13 rfl (by omega) (Eq.trans (show zup _ 13 t v0 13 (J 9 ((t * 3) + 0)) = _ from zup_ne (by omega)) rfl) (fun r_131 => ?_)
    refine tz_ior (pc := 132) (v := zor v0 (J 13 (J 9 ((t * 3) + 0)))) dX9_measure_132 rfl ?_
    refine tz_aS (pc := 133) (z := t) dX9_measure_133 a_13 rfl (by omega) (zor_rg _ _) ?_
    refine tz_iinc (pc := 134) (z := 1) (L2 := [_, _, _, _]) dX9_measure_134 rfl (by decide) rfl ?_
    refine tz_goto (pc := 137) (tgt := 45) dX9_measure_137 (by decide) ?_
    refine tz_iload_n (pc := 45) dX9_measure_45 rfl rfl ?_
    refine tz_aload_n (pc := 46) dX9_measure_46 rfl rfl ?_
    refine tz_fR (pc := 47) dX9_measure_47 fl_X9_15 r_6_2 ?_
    refine tz_iload_n (pc := 50) dX9_measure_50 rfl rfl ?_
    refine tz_aL (pc := 51) (z := t) (v := 1) dX9_measure_51 a_8 rfl (by omega) ha (fun _ => ?_)
    refine tz_icmp_geT (pc := 52) (tgt := 140) (by decide) dX9_measure_52 (by decide) (by decide) (by decide) ?_
    exact tz_vret (pc := 140) dX9_measure_140 rfl (Nat.le_of_ble_eq_true rfl) (Nat.le_of_ble_eq_true rfl) ⟨Nat.le_refl _, Nat.le_add_right _ _⟩ ⟨rfl, ⟨(zOf.up rfl (zOf.up rfl (zOf.up rfl (zOf.up rfl (zOf.up rfl (zOf.up rfl (zOf.up rfl zOf.rf))))))), fun k hk => ⟨by simp [zup, hk], by simp [zup, hk], by simp [zup, hk], by simp [zup, hk]⟩, (Eq.trans (b := (1 + (J 10 (J 9 ((t * 3) + 0))))) (by simp [zup]) (by simp [zs3, ha] <;> omega)), (Eq.trans (b := ((J 11 t) + (J 11 (J 9 ((t * 3) + 0))))) (by simp [zup]) (by simp [zw3, ha] <;> omega)), (Eq.trans (b := (zmax 1 ((J 12 (J 9 ((t * 3) + 0))) + 1))) (by simp [zup]) (by simp [zd3, ha] <;> omega)), (Eq.trans (b := (zor v0 (J 13 (J 9 ((t * 3) + 0))))) (by simp [zup]) (by simp [zv3, ha, hj_42]))⟩⟩
  refine tz_if_ge (pc := 25) (tgt := 41) dX9_measure_25 (by decide) (by omega) (fun h_25 => ?_) (fun h_25 => ?_)
  · refine tz_iconst (pc := 41) dX9_measure_41 ?_
    exact join42 0 (by decide) (by unfold zv0; split <;> first | rfl | omega)
  · refine tz_iconst (pc := 28) dX9_measure_28 ?_
    refine tz_aload_n (pc := 29) dX9_measure_29 rfl rfl ?_
    refine tz_fR (pc := 30) dX9_measure_30 fl_X9_11 r_6_1 ?_
    refine tz_iload_n (pc := 33) dX9_measure_33 rfl rfl ?_
    refine tz_aL (pc := 34) (z := t) (v := (J 7 t)) dX9_measure_34 a_7 rfl (by omega) rfl (fun r_34 => ?_)
    refine tz_iconst (pc := 35) dX9_measure_35 ?_
    refine tz_ixor (pc := 36) (v := zxor (J 7 t) (-1)) dX9_measure_36 rfl ?_
    refine tz_ishl (pc := 37) (v := zshl 1 (zxor (J 7 t) (-1))) dX9_measure_37 rfl ?_
    refine tz_goto (pc := 38) (tgt := 42) dX9_measure_38 (by decide) ?_
    exact join42 (zshl 1 (zxor (J 7 t) (-1))) (zshl_rg _ _) (by unfold zv0; split <;> first | rfl | omega)

set_option maxHeartbeats 4000000 in
set_option maxRecDepth 100000 in
theorem c_meas2 {l : Launch} {G : tb_G} (hl : l.stackTraces = false) (n : Nat) (J : zJ) (t : Int) (hr_t : -2147483648 ≤ t ∧ t < 2147483648)  (h0 : 0 ≤ t ∧ t < 401) (hw : 0 ≤ J 11 t ∧ J 11 t ≤ 9) (hp : ∀ i, 0 ≤ i → i < J 8 t → (0 ≤ J 9 (t * 3 + i) ∧ J 9 (t * 3 + i) < t) ∧ (0 ≤ J 10 (J 9 (t * 3 + i)) ∧ J 10 (J 9 (t * 3 + i)) ≤ 364) ∧ (0 ≤ J 11 (J 9 (t * 3 + i)) ∧ J 11 (J 9 (t * 3 + i)) ≤ 4000) ∧ 0 ≤ J 12 (J 9 (t * 3 + i)) ∧ J 12 (J 9 (t * 3 + i)) ≤ 6) (ha : J 8 t = 2) : tz_Ok l G M_X9_measure 1 0 0 [.ref 6, zi t] n J (zqv (fun J' => zOf (zbut [10, 11, 12, 13]) J' J ∧ (∀ k, ¬ k = t → J' 10 k = J 10 k ∧ J' 11 k = J 11 k ∧ J' 12 k = J 12 k ∧ J' 13 k = J 13 k) ∧ J' 10 t = 1 + zs3 J t ∧ J' 11 t = J 11 t + zw3 J t ∧ J' 12 t = zd3 J t ∧ J' 13 t = zv3 J t)) zN := by
  refine tz_Ok.of hl (by decide +kernel) rfl (tb_c1 rfl) (Nat.le_of_ble_eq_true rfl) ?_
  show tz_At l G M_X9_measure (tb_rm 1 0 0) none (tb_ZM G 0 0 (zQ n 0 (zqv (fun J' => zOf (zbut [10, 11, 12, 13]) J' J ∧ (∀ k, ¬ k = t → J' 10 k = J 10 k ∧ J' 11 k = J 11 k ∧ J' 12 k = J 12 k ∧ J' 13 k = J 13 k) ∧ J' 10 t = 1 + zs3 J t ∧ J' 11 t = J 11 t + zw3 J t ∧ J' 12 t = zd3 J t ∧ J' 13 t = zv3 J t))) (zX n 0 zN)) 0 0 n J 0 [some (.ref 6), some (zi t), none, none] []
  have hp0 := hp 0 (by decide) (by omega)
  have hp1 := hp 1 (by decide) (by omega)
  refine tz_aload_n (pc := 0) dX9_measure_0 rfl rfl ?_
  refine tz_fR (pc := 1) dX9_measure_1 fl_X9_21 r_6_4 ?_
  refine tz_iload_n (pc := 4) dX9_measure_4 rfl rfl ?_
  refine tz_iconst (pc := 5) dX9_measure_5 ?_
  refine tz_aS (pc := 6) (z := t) dX9_measure_6 a_10 rfl (by omega) (by decide) ?_
  refine tz_aload_n (pc := 7) dX9_measure_7 rfl rfl ?_
  refine tz_fR (pc := 8) dX9_measure_8 fl_X9_27 r_6_6 ?_
  refine tz_iload_n (pc := 11) dX9_measure_11 rfl rfl ?_
  refine tz_iconst (pc := 12) dX9_measure_12 ?_
  refine tz_aS (pc := 13) (z := t) dX9_measure_13 a_12 rfl (by omega) (by decide) ?_
  refine tz_aload_n (pc := 14) dX9_measure_14 rfl rfl ?_
  refine tz_fR (pc := 15) dX9_measure_15 fl_X9_30 r_6_7 ?_
  refine tz_iload_n (pc := 18) dX9_measure_18 rfl rfl ?_
  refine tz_aload_n (pc := 19) dX9_measure_19 rfl rfl ?_
  refine tz_fR (pc := 20) dX9_measure_20 fl_X9_11 r_6_1 ?_
  refine tz_iload_n (pc := 23) dX9_measure_23 rfl rfl ?_
  refine tz_aL (pc := 24) (z := t) (v := (J 7 t)) dX9_measure_24 a_7 rfl (by omega) rfl (fun r_24 => ?_)
  have join42 : ∀ (v0 : Int), (-2147483648 ≤ v0 ∧ v0 < 2147483648) → (v0 = zv0 J t) → tz_At l G M_X9_measure (tb_rm 1 0 0) none (tb_ZM G 0 0 (zQ n 0 (zqv (fun J' => zOf (zbut [10, 11, 12, 13]) J' J ∧ (∀ k, ¬ k = t → J' 10 k = J 10 k ∧ J' 11 k = J 11 k ∧ J' 12 k = J 12 k ∧ J' 13 k = J 13 k) ∧ J' 10 t = 1 + zs3 J t ∧ J' 11 t = J 11 t + zw3 J t ∧ J' 12 t = zd3 J t ∧ J' 13 t = zv3 J t))) (zX n 0 zN)) 0 0 n (zup (zup J 10 t 1) 12 t 1) 42 [some (.ref 6), some (zi t), none, none] (zi v0 :: zi t :: .ref 13 :: []) := by
    intro v0 hr_v0
    intro hj_42
    refine tz_aS (pc := 42) (z := t) dX9_measure_42 a_13 rfl (by omega) (by omega) ?_
    refine tz_iconst (pc := 43) dX9_measure_43 ?_
    refine tz_istore_n (pc := 44) (L2 := [_, _, _, _]) dX9_measure_44 rfl (by decide) rfl ?_
    refine tz_iload_n (pc := 45) dX9_measure_45 rfl rfl ?_
    refine tz_aload_n (pc := 46) dX9_measure_46 rfl rfl ?_
    refine tz_fR (pc := 47) dX9_measure_47 fl_X9_15 r_6_2 ?_
    refine tz_iload_n (pc := 50) dX9_measure_50 rfl rfl ?_
    refine tz_aL (pc := 51) (z := t) (v := 2) dX9_measure_51 a_8 rfl (by omega) ha (fun _ => ?_)
    refine tz_icmp_geF (pc := 52) (tgt := 140) (by decide) dX9_measure_52 (by decide) (by decide) (by decide) ?_
    refine tz_aload_n (pc := 55) dX9_measure_55 rfl rfl ?_
    refine tz_fR (pc := 56) dX9_measure_56 fl_X9_18 r_6_3 ?_
    refine tz_iload_n (pc := 59) dX9_measure_59 rfl rfl ?_
    refine tz_iconst (pc := 60) dX9_measure_60 ?_
    refine tz_imul (pc := 61) (v := t * 3) dX9_measure_61 rfl ?_
    refine tz_iload_n (pc := 62) dX9_measure_62 rfl rfl ?_
    refine tz_iadd (pc := 63) (v := (t * 3) + 0) dX9_measure_63 rfl ?_
    refine tz_aL (pc := 64) (z := ((t * 3) + 0)) (v := (J 9 ((t * 3) + 0))) dX9_measure_64 a_9 rfl (by omega) rfl (fun r_64 => ?_)
    refine tz_istore_n (pc := 65) (L2 := [_, _, _, _]) dX9_measure_65 rfl (by decide) rfl ?_
    refine tz_aload_n (pc := 66) dX9_measure_66 rfl rfl ?_
    refine tz_fR (pc := 67) dX9_measure_67 fl_X9_21 r_6_4 ?_
    refine tz_iload_n (pc := 70) dX9_measure_70 rfl rfl ?_
    refine tz_dup2 (pc := 71) dX9_measure_71 rfl rfl ?_
    refine tz_aL (pc := 72) (z := t) (v := 1) dX9_measure_72 a_10 rfl (by omega) (by simp [zup]) (fun _ => ?_)
    refine tz_aload_n (pc := 73) dX9_measure_73 rfl rfl ?_
    refine tz_fR (pc := 74) dX9_measure_74 fl_X9_21 r_6_4 ?_
    refine tz_iload_n (pc := 77) dX9_measure_77 rfl rfl ?_
    refine tz_aL (pc := 78) (z := (J 9 ((t * 3) + 0))) (v := (J 10 (J 9 ((t * 3) + 0)))) dX9_measure_78 a_10 rfl (by omega) (Eq.trans (show zup _ 10 t 1 10 (J 9 ((t * 3) + 0)) = _ from zup_ne (by omega)) rfl) (fun r_78 => ?_)
    refine tz_iadd (pc := 79) (v := 1 + (J 10 (J 9 ((t * 3) + 0)))) dX9_measure_79 rfl ?_
    refine tz_aS (pc := 80) (z := t) dX9_measure_80 a_10 rfl (by omega) (by omega) ?_
    refine tz_aload_n (pc := 81) dX9_measure_81 rfl rfl ?_
    refine tz_fR (pc := 82) dX9_measure_82 fl_X9_24 r_6_5 ?_
    refine tz_iload_n (pc := 85) dX9_measure_85 rfl rfl ?_
    refine tz_dup2 (pc := 86) dX9_measure_86 rfl rfl ?_
    refine tz_aL (pc := 87) (z := t) (v := (J 11 t)) dX9_measure_87 a_11 rfl (by omega) rfl (fun r_87 => ?_)
    refine tz_aload_n (pc := 88) dX9_measure_88 rfl rfl ?_
    refine tz_fR (pc := 89) dX9_measure_89 fl_X9_24 r_6_5 ?_
    refine tz_iload_n (pc := 92) dX9_measure_92 rfl rfl ?_
    refine tz_aL (pc := 93) (z := (J 9 ((t * 3) + 0))) (v := (J 11 (J 9 ((t * 3) + 0)))) dX9_measure_93 a_11 rfl (by omega) rfl (fun r_93 => ?_)
    refine tz_iadd (pc := 94) (v := (J 11 t) + (J 11 (J 9 ((t * 3) + 0)))) dX9_measure_94 rfl ?_
    refine tz_aS (pc := 95) (z := t) dX9_measure_95 a_11 rfl (by omega) (by omega) ?_
    refine tz_aload_n (pc := 96) dX9_measure_96 rfl rfl ?_
    refine tz_fR (pc := 97) dX9_measure_97 fl_X9_27 r_6_6 ?_
    refine tz_iload_n (pc := 100) dX9_measure_100 rfl rfl ?_
    refine tz_aload_n (pc := 101) dX9_measure_101 rfl rfl ?_
    refine tz_fR (pc := 102) dX9_measure_102 fl_X9_27 r_6_6 ?_
    refine tz_iload_n (pc := 105) dX9_measure_105 rfl rfl ?_
    refine tz_aL (pc := 106) (z := t) (v := 1) dX9_measure_106 a_12 rfl (by omega) (by simp [zup]) (fun _ => ?_)
    refine tz_aload_n (pc := 107) dX9_measure_107 rfl rfl ?_
    refine tz_fR (pc := 108) dX9_measure_108 fl_X9_27 r_6_6 ?_
    refine tz_iload_n (pc := 111) dX9_measure_111 rfl rfl ?_
    refine tz_aL (pc := 112) (z := (J 9 ((t * 3) + 0))) (v := (J 12 (J 9 ((t * 3) + 0)))) dX9_measure_112 a_12 rfl (by omega) (Eq.trans (show zup _ 12 t 1 12 (J 9 ((t * 3) + 0)) = _ from zup_ne (by omega)) rfl) (fun r_112 => ?_)
    refine tz_iconst (pc := 113) dX9_measure_113 ?_
    refine tz_iadd (pc := 114) (v := (J 12 (J 9 ((t * 3) + 0))) + 1) dX9_measure_114 rfl ?_
    have hm_115 := zmax_le 1 ((J 12 (J 9 ((t * 3) + 0))) + 1)
    refine tz_mx (pc := 115) (v := zmax 1 ((J 12 (J 9 ((t * 3) + 0))) + 1)) dX9_measure_115 ml_X9_86 (Nat.le_of_ble_eq_true rfl) (Nat.le_of_ble_eq_true rfl) (Nat.le_of_ble_eq_true rfl) (Nat.le_of_ble_eq_true rfl) (by decide) (by omega) rfl ?_
    refine tz_aS (pc := 118) (z := t) dX9_measure_118 a_12 rfl (by omega) (by omega) ?_
    refine tz_aload_n (pc := 119) dX9_measure_119 rfl rfl ?_
    refine tz_fR (pc := 120) dX9_measure_120 fl_X9_30 r_6_7 ?_
    refine tz_iload_n (pc := 123) dX9_measure_123 rfl rfl ?_
    refine tz_dup2 (pc := 124) dX9_measure_124 rfl rfl ?_
    refine tz_aL (pc := 125) (z := t) (v := v0) dX9_measure_125 a_13 rfl (by omega) (by simp [zup]) (fun r_125 => ?_)
    refine tz_aload_n (pc := 126) dX9_measure_126 rfl rfl ?_
    refine tz_fR (pc := 127) dX9_measure_127 fl_X9_30 r_6_7 ?_
    refine tz_iload_n (pc := 130) dX9_measure_130 rfl rfl ?_
    refine tz_aL (pc := 131) (z := (J 9 ((t * 3) + 0))) (v := (J 13 (J 9 ((t * 3) + 0)))) dX9_measure_131 a_13 rfl (by omega) (Eq.trans (show zup _ 13 t v0 13 (J 9 ((t * 3) + 0)) = _ from zup_ne (by omega)) rfl) (fun r_131 => ?_)
    refine tz_ior (pc := 132) (v := zor v0 (J 13 (J 9 ((t * 3) + 0)))) dX9_measure_132 rfl ?_
    refine tz_aS (pc := 133) (z := t) dX9_measure_133 a_13 rfl (by omega) (zor_rg _ _) ?_
    refine tz_iinc (pc := 134) (z := 1) (L2 := [_, _, _, _]) dX9_measure_134 rfl (by decide) rfl ?_
    refine tz_goto (pc := 137) (tgt := 45) dX9_measure_137 (by decide) ?_
    refine tz_iload_n (pc := 45) dX9_measure_45 rfl rfl ?_
    refine tz_aload_n (pc := 46) dX9_measure_46 rfl rfl ?_
    refine tz_fR (pc := 47) dX9_measure_47 fl_X9_15 r_6_2 ?_
    refine tz_iload_n (pc := 50) dX9_measure_50 rfl rfl ?_
    refine tz_aL (pc := 51) (z := t) (v := 2) dX9_measure_51 a_8 rfl (by omega) ha (fun _ => ?_)
    refine tz_icmp_geF (pc := 52) (tgt := 140) (by decide) dX9_measure_52 (by decide) (by decide) (by decide) ?_
    refine tz_aload_n (pc := 55) dX9_measure_55 rfl rfl ?_
    refine tz_fR (pc := 56) dX9_measure_56 fl_X9_18 r_6_3 ?_
    refine tz_iload_n (pc := 59) dX9_measure_59 rfl rfl ?_
    refine tz_iconst (pc := 60) dX9_measure_60 ?_
    refine tz_imul (pc := 61) (v := t * 3) dX9_measure_61 rfl ?_
    refine tz_iload_n (pc := 62) dX9_measure_62 rfl rfl ?_
    refine tz_iadd (pc := 63) (v := (t * 3) + 1) dX9_measure_63 rfl ?_
    refine tz_aL (pc := 64) (z := ((t * 3) + 1)) (v := (J 9 ((t * 3) + 1))) dX9_measure_64 a_9 rfl (by omega) rfl (fun r_64 => ?_)
    refine tz_istore_n (pc := 65) (L2 := [_, _, _, _]) dX9_measure_65 rfl (by decide) rfl ?_
    refine tz_aload_n (pc := 66) dX9_measure_66 rfl rfl ?_
    refine tz_fR (pc := 67) dX9_measure_67 fl_X9_21 r_6_4 ?_
    refine tz_iload_n (pc := 70) dX9_measure_70 rfl rfl ?_
    refine tz_dup2 (pc := 71) dX9_measure_71 rfl rfl ?_
    refine tz_aL (pc := 72) (z := t) (v := (1 + (J 10 (J 9 ((t * 3) + 0))))) dX9_measure_72 a_10 rfl (by omega) (by simp [zup]) (fun r_72 => ?_)
    refine tz_aload_n (pc := 73) dX9_measure_73 rfl rfl ?_
    refine tz_fR (pc := 74) dX9_measure_74 fl_X9_21 r_6_4 ?_
    refine tz_iload_n (pc := 77) dX9_measure_77 rfl rfl ?_
    refine tz_aL (pc := 78) (z := (J 9 ((t * 3) + 1))) (v := (J 10 (J 9 ((t * 3) + 1)))) dX9_measure_78 a_10 rfl (by omega) (Eq.trans (show zup _ 10 t (1 + (J 10 (J 9 ((t * 3) + 0)))) 10 (J 9 ((t * 3) + 1)) = _ from zup_ne (by omega)) (Eq.trans (show zup _ 10 t 1 10 (J 9 ((t * 3) + 1)) = _ from zup_ne (by omega)) rfl)) (fun r_78 => ?_)
    refine tz_iadd (pc := 79) (v := (1 + (J 10 (J 9 ((t * 3) + 0)))) + (J 10 (J 9 ((t * 3) + 1)))) dX9_measure_79 rfl ?_
    refine tz_aS (pc := 80) (z := t) dX9_measure_80 a_10 rfl (by omega) (by omega) ?_
    refine tz_aload_n (pc := 81) dX9_measure_81 rfl rfl ?_
    refine tz_fR (pc := 82) dX9_measure_82 fl_X9_24 r_6_5 ?_
    refine tz_iload_n (pc := 85) dX9_measure_85 rfl rfl ?_
    refine tz_dup2 (pc := 86) dX9_measure_86 rfl rfl ?_
    refine tz_aL (pc := 87) (z := t) (v := ((J 11 t) + (J 11 (J 9 ((t * 3) + 0))))) dX9_measure_87 a_11 rfl (by omega) (by simp [zup]) (fun r_87 => ?_)
    refine tz_aload_n (pc := 88) dX9_measure_88 rfl rfl ?_
    refine tz_fR (pc := 89) dX9_measure_89 fl_X9_24 r_6_5 ?_
    refine tz_iload_n (pc := 92) dX9_measure_92 rfl rfl ?_
    refine tz_aL (pc := 93) (z := (J 9 ((t * 3) + 1))) (v := (J 11 (J 9 ((t * 3) + 1)))) dX9_measure_93 a_11 rfl (by omega) (Eq.trans (show zup _ 11 t ((J 11 t) + (J 11 (J 9 ((t * 3) + 0)))) 11 (J 9 ((t * 3) + 1)) = _ from zup_ne (by omega)) rfl) (fun r_93 => ?_)
    refine tz_iadd (pc := 94) (v := ((J 11 t) + (J 11 (J 9 ((t * 3) + 0)))) + (J 11 (J 9 ((t * 3) + 1)))) dX9_measure_94 rfl ?_
    refine tz_aS (pc := 95) (z := t) dX9_measure_95 a_11 rfl (by omega) (by omega) ?_
    refine tz_aload_n (pc := 96) dX9_measure_96 rfl rfl ?_
    refine tz_fR (pc := 97) dX9_measure_97 fl_X9_27 r_6_6 ?_
    refine tz_iload_n (pc := 100) dX9_measure_100 rfl rfl ?_
    refine tz_aload_n (pc := 101) dX9_measure_101 rfl rfl ?_
    refine tz_fR (pc := 102) dX9_measure_102 fl_X9_27 r_6_6 ?_
    refine tz_iload_n (pc := 105) dX9_measure_105 rfl rfl ?_
    refine tz_aL (pc := 106) (z := t) (v := (zmax 1 ((J 12 (J 9 ((t * 3) + 0))) + 1))) dX9_measure_106 a_12 rfl (by omega) (by simp [zup]) (fun r_106 => ?_)
    refine tz_aload_n (pc := 107) dX9_measure_107 rfl rfl ?_
    refine tz_fR (pc := 108) dX9_measure_108 fl_X9_27 r_6_6 ?_
    refine tz_iload_n (pc := 111) dX9_measure_111 rfl rfl ?_
    refine tz_aL (pc := 112) (z := (J 9 ((t * 3) + 1))) (v := (J 12 (J 9 ((t * 3) + 1)))) dX9_measure_112 a_12 rfl (by omega) (Eq.trans (show zup _ 12 t (zmax 1 ((J 12 (J 9 ((t * 3) + 0))) + 1)) 12 (J 9 ((t * 3) + 1)) = _ from zup_ne (by omega)) (Eq.trans (show zup _ 12 t 1 12 (J 9 ((t * 3) + 1)) = _ from zup_ne (by omega)) rfl)) (fun r_112 => ?_)
    refine tz_iconst (pc := 113) dX9_measure_113 ?_
    refine tz_iadd (pc := 114) (v := (J 12 (J 9 ((t * 3) + 1))) + 1) dX9_measure_114 rfl ?_
    have hm_115 := zmax_le (zmax 1 ((J 12 (J 9 ((t * 3) + 0))) + 1)) ((J 12 (J 9 ((t * 3) + 1))) + 1)
    refine tz_mx (pc := 115) (v := zmax (zmax 1 ((J 12 (J 9 ((t * 3) + 0))) + 1)) ((J 12 (J 9 ((t * 3) + 1))) + 1)) dX9_measure_115 ml_X9_86 (Nat.le_of_ble_eq_true rfl) (Nat.le_of_ble_eq_true rfl) (Nat.le_of_ble_eq_true rfl) (Nat.le_of_ble_eq_true rfl) (by omega) (by omega) rfl ?_
    refine tz_aS (pc := 118) (z := t) dX9_measure_118 a_12 rfl (by omega) (by omega) ?_
    refine tz_aload_n (pc := 119) dX9_measure_119 rfl rfl ?_
    refine tz_fR (pc := 120) dX9_measure_120 fl_X9_30 r_6_7 ?_
    refine tz_iload_n (pc := 123) dX9_measure_123 rfl rfl ?_
    refine tz_dup2 (pc := 124) dX9_measure_124 rfl rfl ?_
    refine tz_aL (pc := 125) (z := t) (v := (zor v0 (J 13 (J 9 ((t * 3) + 0))))) dX9_measure_125 a_13 rfl (by omega) (by simp [zup]) (fun r_125 => ?_)
    refine tz_aload_n (pc := 126) dX9_measure_126 rfl rfl ?_
    refine tz_fR (pc := 127) dX9_measure_127 fl_X9_30 r_6_7 ?_
    refine tz_iload_n (pc := 130) dX9_measure_130 rfl rfl ?_
    refine tz_aL (pc := 131) (z := (J 9 ((t * 3) + 1))) (v := (J 13 (J 9 ((t * 3) + 1)))) dX9_measure_131 a_13 rfl (by omega) (Eq.trans (show zup _ 13 t (zor v0 (J 13 (J 9 ((t * 3) + 0)))) 13 (J 9 ((t * 3) + 1)) = _ from zup_ne (by omega)) (Eq.trans (show zup _ 13 t v0 13 (J 9 ((t * 3) + 1)) = _ from zup_ne (by omega)) rfl)) (fun r_131 => ?_)
    refine tz_ior (pc := 132) (v := zor (zor v0 (J 13 (J 9 ((t * 3) + 0)))) (J 13 (J 9 ((t * 3) + 1)))) dX9_measure_132 rfl ?_
    refine tz_aS (pc := 133) (z := t) dX9_measure_133 a_13 rfl (by omega) (zor_rg _ _) ?_
    refine tz_iinc (pc := 134) (z := 2) (L2 := [_, _, _, _]) dX9_measure_134 rfl (by decide) rfl ?_
    refine tz_goto (pc := 137) (tgt := 45) dX9_measure_137 (by decide) ?_
    refine tz_iload_n (pc := 45) dX9_measure_45 rfl rfl ?_
    refine tz_aload_n (pc := 46) dX9_measure_46 rfl rfl ?_
    refine tz_fR (pc := 47) dX9_measure_47 fl_X9_15 r_6_2 ?_
    refine tz_iload_n (pc := 50) dX9_measure_50 rfl rfl ?_
    refine tz_aL (pc := 51) (z := t) (v := 2) dX9_measure_51 a_8 rfl (by omega) ha (fun _ => ?_)
    refine tz_icmp_geT (pc := 52) (tgt := 140) (by decide) dX9_measure_52 (by decide) (by decide) (by decide) ?_
    exact tz_vret (pc := 140) dX9_measure_140 rfl (Nat.le_of_ble_eq_true rfl) (Nat.le_of_ble_eq_true rfl) ⟨Nat.le_refl _, Nat.le_add_right _ _⟩ ⟨rfl, ⟨(zOf.up rfl (zOf.up rfl (zOf.up rfl (zOf.up rfl (zOf.up rfl (zOf.up rfl (zOf.up rfl (zOf.up rfl (zOf.up rfl (zOf.up rfl (zOf.up rfl zOf.rf))))))))))), fun k hk => ⟨by simp [zup, hk], by simp [zup, hk], by simp [zup, hk], by simp [zup, hk]⟩, (Eq.trans (b := ((1 + (J 10 (J 9 ((t * 3) + 0)))) + (J 10 (J 9 ((t * 3) + 1))))) (by simp [zup]) (by simp [zs3, ha] <;> omega)), (Eq.trans (b := (((J 11 t) + (J 11 (J 9 ((t * 3) + 0)))) + (J 11 (J 9 ((t * 3) + 1))))) (by simp [zup]) (by simp [zw3, ha] <;> omega)), (Eq.trans (b := (zmax (zmax 1 ((J 12 (J 9 ((t * 3) + 0))) + 1)) ((J 12 (J 9 ((t * 3) + 1))) + 1))) (by simp [zup]) (by simp [zd3, ha] <;> omega)), (Eq.trans (b := (zor (zor v0 (J 13 (J 9 ((t * 3) + 0)))) (J 13 (J 9 ((t * 3) + 1))))) (by simp [zup]) (by simp [zv3, ha, hj_42]))⟩⟩
  refine tz_if_ge (pc := 25) (tgt := 41) dX9_measure_25 (by decide) (by omega) (fun h_25 => ?_) (fun h_25 => ?_)
  · refine tz_iconst (pc := 41) dX9_measure_41 ?_
    exact join42 0 (by decide) (by unfold zv0; split <;> first | rfl | omega)
  · refine tz_iconst (pc := 28) dX9_measure_28 ?_
    refine tz_aload_n (pc := 29) dX9_measure_29 rfl rfl ?_
    refine tz_fR (pc := 30) dX9_measure_30 fl_X9_11 r_6_1 ?_
    refine tz_iload_n (pc := 33) dX9_measure_33 rfl rfl ?_
    refine tz_aL (pc := 34) (z := t) (v := (J 7 t)) dX9_measure_34 a_7 rfl (by omega) rfl (fun r_34 => ?_)
    refine tz_iconst (pc := 35) dX9_measure_35 ?_
    refine tz_ixor (pc := 36) (v := zxor (J 7 t) (-1)) dX9_measure_36 rfl ?_
    refine tz_ishl (pc := 37) (v := zshl 1 (zxor (J 7 t) (-1))) dX9_measure_37 rfl ?_
    refine tz_goto (pc := 38) (tgt := 42) dX9_measure_38 (by decide) ?_
    exact join42 (zshl 1 (zxor (J 7 t) (-1))) (zshl_rg _ _) (by unfold zv0; split <;> first | rfl | omega)

set_option maxHeartbeats 4000000 in
set_option maxRecDepth 100000 in
theorem c_meas3 {l : Launch} {G : tb_G} (hl : l.stackTraces = false) (n : Nat) (J : zJ) (t : Int) (hr_t : -2147483648 ≤ t ∧ t < 2147483648)  (h0 : 0 ≤ t ∧ t < 401) (hw : 0 ≤ J 11 t ∧ J 11 t ≤ 9) (hp : ∀ i, 0 ≤ i → i < J 8 t → (0 ≤ J 9 (t * 3 + i) ∧ J 9 (t * 3 + i) < t) ∧ (0 ≤ J 10 (J 9 (t * 3 + i)) ∧ J 10 (J 9 (t * 3 + i)) ≤ 364) ∧ (0 ≤ J 11 (J 9 (t * 3 + i)) ∧ J 11 (J 9 (t * 3 + i)) ≤ 4000) ∧ 0 ≤ J 12 (J 9 (t * 3 + i)) ∧ J 12 (J 9 (t * 3 + i)) ≤ 6) (ha : J 8 t = 3) : tz_Ok l G M_X9_measure 1 0 0 [.ref 6, zi t] n J (zqv (fun J' => zOf (zbut [10, 11, 12, 13]) J' J ∧ (∀ k, ¬ k = t → J' 10 k = J 10 k ∧ J' 11 k = J 11 k ∧ J' 12 k = J 12 k ∧ J' 13 k = J 13 k) ∧ J' 10 t = 1 + zs3 J t ∧ J' 11 t = J 11 t + zw3 J t ∧ J' 12 t = zd3 J t ∧ J' 13 t = zv3 J t)) zN := by
  refine tz_Ok.of hl (by decide +kernel) rfl (tb_c1 rfl) (Nat.le_of_ble_eq_true rfl) ?_
  show tz_At l G M_X9_measure (tb_rm 1 0 0) none (tb_ZM G 0 0 (zQ n 0 (zqv (fun J' => zOf (zbut [10, 11, 12, 13]) J' J ∧ (∀ k, ¬ k = t → J' 10 k = J 10 k ∧ J' 11 k = J 11 k ∧ J' 12 k = J 12 k ∧ J' 13 k = J 13 k) ∧ J' 10 t = 1 + zs3 J t ∧ J' 11 t = J 11 t + zw3 J t ∧ J' 12 t = zd3 J t ∧ J' 13 t = zv3 J t))) (zX n 0 zN)) 0 0 n J 0 [some (.ref 6), some (zi t), none, none] []
  have hp0 := hp 0 (by decide) (by omega)
  have hp1 := hp 1 (by decide) (by omega)
  have hp2 := hp 2 (by decide) (by omega)
  refine tz_aload_n (pc := 0) dX9_measure_0 rfl rfl ?_
  refine tz_fR (pc := 1) dX9_measure_1 fl_X9_21 r_6_4 ?_
  refine tz_iload_n (pc := 4) dX9_measure_4 rfl rfl ?_
  refine tz_iconst (pc := 5) dX9_measure_5 ?_
  refine tz_aS (pc := 6) (z := t) dX9_measure_6 a_10 rfl (by omega) (by decide) ?_
  refine tz_aload_n (pc := 7) dX9_measure_7 rfl rfl ?_
  refine tz_fR (pc := 8) dX9_measure_8 fl_X9_27 r_6_6 ?_
  refine tz_iload_n (pc := 11) dX9_measure_11 rfl rfl ?_
  refine tz_iconst (pc := 12) dX9_measure_12 ?_
  refine tz_aS (pc := 13) (z := t) dX9_measure_13 a_12 rfl (by omega) (by decide) ?_
  refine tz_aload_n (pc := 14) dX9_measure_14 rfl rfl ?_
  refine tz_fR (pc := 15) dX9_measure_15 fl_X9_30 r_6_7 ?_
  refine tz_iload_n (pc := 18) dX9_measure_18 rfl rfl ?_
  refine tz_aload_n (pc := 19) dX9_measure_19 rfl rfl ?_
  refine tz_fR (pc := 20) dX9_measure_20 fl_X9_11 r_6_1 ?_
  refine tz_iload_n (pc := 23) dX9_measure_23 rfl rfl ?_
  refine tz_aL (pc := 24) (z := t) (v := (J 7 t)) dX9_measure_24 a_7 rfl (by omega) rfl (fun r_24 => ?_)
  have join42 : ∀ (v0 : Int), (-2147483648 ≤ v0 ∧ v0 < 2147483648) → (v0 = zv0 J t) → tz_At l G M_X9_measure (tb_rm 1 0 0) none (tb_ZM G 0 0 (zQ n 0 (zqv (fun J' => zOf (zbut [10, 11, 12, 13]) J' J ∧ (∀ k, ¬ k = t → J' 10 k = J 10 k ∧ J' 11 k = J 11 k ∧ J' 12 k = J 12 k ∧ J' 13 k = J 13 k) ∧ J' 10 t = 1 + zs3 J t ∧ J' 11 t = J 11 t + zw3 J t ∧ J' 12 t = zd3 J t ∧ J' 13 t = zv3 J t))) (zX n 0 zN)) 0 0 n (zup (zup J 10 t 1) 12 t 1) 42 [some (.ref 6), some (zi t), none, none] (zi v0 :: zi t :: .ref 13 :: []) := by
    intro v0 hr_v0
    intro hj_42
    refine tz_aS (pc := 42) (z := t) dX9_measure_42 a_13 rfl (by omega) (by omega) ?_
    refine tz_iconst (pc := 43) dX9_measure_43 ?_
    refine tz_istore_n (pc := 44) (L2 := [_, _, _, _]) dX9_measure_44 rfl (by decide) rfl ?_
    refine tz_iload_n (pc := 45) dX9_measure_45 rfl rfl ?_
    refine tz_aload_n (pc := 46) dX9_measure_46 rfl rfl ?_
    refine tz_fR (pc := 47) dX9_measure_47 fl_X9_15 r_6_2 ?_
    refine tz_iload_n (pc := 50) dX9_measure_50 rfl rfl ?_
    refine tz_aL (pc := 51) (z := t) (v := 3) dX9_measure_51 a_8 rfl (by omega) ha (fun _ => ?_)
    refine tz_icmp_geF (pc := 52) (tgt := 140) (by decide) dX9_measure_52 (by decide) (by decide) (by decide) ?_
    refine tz_aload_n (pc := 55) dX9_measure_55 rfl rfl ?_
    refine tz_fR (pc := 56) dX9_measure_56 fl_X9_18 r_6_3 ?_
    refine tz_iload_n (pc := 59) dX9_measure_59 rfl rfl ?_
    refine tz_iconst (pc := 60) dX9_measure_60 ?_
    refine tz_imul (pc := 61) (v := t * 3) dX9_measure_61 rfl ?_
    refine tz_iload_n (pc := 62) dX9_measure_62 rfl rfl ?_
    refine tz_iadd (pc := 63) (v := (t * 3) + 0) dX9_measure_63 rfl ?_
    refine tz_aL (pc := 64) (z := ((t * 3) + 0)) (v := (J 9 ((t * 3) + 0))) dX9_measure_64 a_9 rfl (by omega) rfl (fun r_64 => ?_)
    refine tz_istore_n (pc := 65) (L2 := [_, _, _, _]) dX9_measure_65 rfl (by decide) rfl ?_
    refine tz_aload_n (pc := 66) dX9_measure_66 rfl rfl ?_
    refine tz_fR (pc := 67) dX9_measure_67 fl_X9_21 r_6_4 ?_
    refine tz_iload_n (pc := 70) dX9_measure_70 rfl rfl ?_
    refine tz_dup2 (pc := 71) dX9_measure_71 rfl rfl ?_
    refine tz_aL (pc := 72) (z := t) (v := 1) dX9_measure_72 a_10 rfl (by omega) (by simp [zup]) (fun _ => ?_)
    refine tz_aload_n (pc := 73) dX9_measure_73 rfl rfl ?_
    refine tz_fR (pc := 74) dX9_measure_74 fl_X9_21 r_6_4 ?_
    refine tz_iload_n (pc := 77) dX9_measure_77 rfl rfl ?_
    refine tz_aL (pc := 78) (z := (J 9 ((t * 3) + 0))) (v := (J 10 (J 9 ((t * 3) + 0)))) dX9_measure_78 a_10 rfl (by omega) (Eq.trans (show zup _ 10 t 1 10 (J 9 ((t * 3) + 0)) = _ from zup_ne (by omega)) rfl) (fun r_78 => ?_)
    refine tz_iadd (pc := 79) (v := 1 + (J 10 (J 9 ((t * 3) + 0)))) dX9_measure_79 rfl ?_
    refine tz_aS (pc := 80) (z := t) dX9_measure_80 a_10 rfl (by omega) (by omega) ?_
    refine tz_aload_n (pc := 81) dX9_measure_81 rfl rfl ?_
    refine tz_fR (pc := 82) dX9_measure_82 fl_X9_24 r_6_5 ?_
    refine tz_iload_n (pc := 85) dX9_measure_85 rfl rfl ?_
    refine tz_dup2 (pc := 86) dX9_measure_86 rfl rfl ?_
    refine tz_aL (pc := 87) (z := t) (v := (J 11 t)) dX9_measure_87 a_11 rfl (by omega) rfl (fun r_87 => ?_)
    refine tz_aload_n (pc := 88) dX9_measure_88 rfl rfl ?_
    refine tz_fR (pc := 89) dX9_measure_89 fl_X9_24 r_6_5 ?_
    refine tz_iload_n (pc := 92) dX9_measure_92 rfl rfl ?_
    refine tz_aL (pc := 93) (z := (J 9 ((t * 3) + 0))) (v := (J 11 (J 9 ((t * 3) + 0)))) dX9_measure_93 a_11 rfl (by omega) rfl (fun r_93 => ?_)
    refine tz_iadd (pc := 94) (v := (J 11 t) + (J 11 (J 9 ((t * 3) + 0)))) dX9_measure_94 rfl ?_
    refine tz_aS (pc := 95) (z := t) dX9_measure_95 a_11 rfl (by omega) (by omega) ?_
    refine tz_aload_n (pc := 96) dX9_measure_96 rfl rfl ?_
    refine tz_fR (pc := 97) dX9_measure_97 fl_X9_27 r_6_6 ?_
    refine tz_iload_n (pc := 100) dX9_measure_100 rfl rfl ?_
    refine tz_aload_n (pc := 101) dX9_measure_101 rfl rfl ?_
    refine tz_fR (pc := 102) dX9_measure_102 fl_X9_27 r_6_6 ?_
    refine tz_iload_n (pc := 105) dX9_measure_105 rfl rfl ?_
    refine tz_aL (pc := 106) (z := t) (v := 1) dX9_measure_106 a_12 rfl (by omega) (by simp [zup]) (fun _ => ?_)
    refine tz_aload_n (pc := 107) dX9_measure_107 rfl rfl ?_
    refine tz_fR (pc := 108) dX9_measure_108 fl_X9_27 r_6_6 ?_
    refine tz_iload_n (pc := 111) dX9_measure_111 rfl rfl ?_
    refine tz_aL (pc := 112) (z := (J 9 ((t * 3) + 0))) (v := (J 12 (J 9 ((t * 3) + 0)))) dX9_measure_112 a_12 rfl (by omega) (Eq.trans (show zup _ 12 t 1 12 (J 9 ((t * 3) + 0)) = _ from zup_ne (by omega)) rfl) (fun r_112 => ?_)
    refine tz_iconst (pc := 113) dX9_measure_113 ?_
    refine tz_iadd (pc := 114) (v := (J 12 (J 9 ((t * 3) + 0))) + 1) dX9_measure_114 rfl ?_
    have hm_115 := zmax_le 1 ((J 12 (J 9 ((t * 3) + 0))) + 1)
    refine tz_mx (pc := 115) (v := zmax 1 ((J 12 (J 9 ((t * 3) + 0))) + 1)) dX9_measure_115 ml_X9_86 (Nat.le_of_ble_eq_true rfl) (Nat.le_of_ble_eq_true rfl) (Nat.le_of_ble_eq_true rfl) (Nat.le_of_ble_eq_true rfl) (by decide) (by omega) rfl ?_
    refine tz_aS (pc := 118) (z := t) dX9_measure_118 a_12 rfl (by omega) (by omega) ?_
    refine tz_aload_n (pc := 119) dX9_measure_119 rfl rfl ?_
    refine tz_fR (pc := 120) dX9_measure_120 fl_X9_30 r_6_7 ?_
    refine tz_iload_n (pc := 123) dX9_measure_123 rfl rfl ?_
    refine tz_dup2 (pc := 124) dX9_measure_124 rfl rfl ?_
    refine tz_aL (pc := 125) (z := t) (v := v0) dX9_measure_125 a_13 rfl (by omega) (by simp [zup]) (fun r_125 => ?_)
    refine tz_aload_n (pc := 126) dX9_measure_126 rfl rfl ?_
    refine tz_fR (pc := 127) dX9_measure_127 fl_X9_30 r_6_7 ?_
    refine tz_iload_n (pc := 130) dX9_measure_130 rfl rfl ?_
    refine tz_aL (pc := 131) (z := (J 9 ((t * 3) + 0))) (v := (J 13 (J 9 ((t * 3) + 0)))) dX9_measure_131 a_13 rfl (by omega) (Eq.trans (show zup _ 13 t v0 13 (J 9 ((t * 3) + 0)) = _ from zup_ne (by omega)) rfl) (fun r_131 => ?_)
    refine tz_ior (pc := 132) (v := zor v0 (J 13 (J 9 ((t * 3) + 0)))) dX9_measure_132 rfl ?_
    refine tz_aS (pc := 133) (z := t) dX9_measure_133 a_13 rfl (by omega) (zor_rg _ _) ?_
    refine tz_iinc (pc := 134) (z := 1) (L2 := [_, _, _, _]) dX9_measure_134 rfl (by decide) rfl ?_
    refine tz_goto (pc := 137) (tgt := 45) dX9_measure_137 (by decide) ?_
    refine tz_iload_n (pc := 45) dX9_measure_45 rfl rfl ?_
    refine tz_aload_n (pc := 46) dX9_measure_46 rfl rfl ?_
    refine tz_fR (pc := 47) dX9_measure_47 fl_X9_15 r_6_2 ?_
    refine tz_iload_n (pc := 50) dX9_measure_50 rfl rfl ?_
    refine tz_aL (pc := 51) (z := t) (v := 3) dX9_measure_51 a_8 rfl (by omega) ha (fun _ => ?_)
    refine tz_icmp_geF (pc := 52) (tgt := 140) (by decide) dX9_measure_52 (by decide) (by decide) (by decide) ?_
    refine tz_aload_n (pc := 55) dX9_measure_55 rfl rfl ?_
    refine tz_fR (pc := 56) dX9_measure_56 fl_X9_18 r_6_3 ?_
    refine tz_iload_n (pc := 59) dX9_measure_59 rfl rfl ?_
    refine tz_iconst (pc := 60) dX9_measure_60 ?_
    refine tz_imul (pc := 61) (v := t * 3) dX9_measure_61 rfl ?_
    refine tz_iload_n (pc := 62) dX9_measure_62 rfl rfl ?_
    refine tz_iadd (pc := 63) (v := (t * 3) + 1) dX9_measure_63 rfl ?_
    refine tz_aL (pc := 64) (z := ((t * 3) + 1)) (v := (J 9 ((t * 3) + 1))) dX9_measure_64 a_9 rfl (by omega) rfl (fun r_64 => ?_)
    refine tz_istore_n (pc := 65) (L2 := [_, _, _, _]) dX9_measure_65 rfl (by decide) rfl ?_
    refine tz_aload_n (pc := 66) dX9_measure_66 rfl rfl ?_
    refine tz_fR (pc := 67) dX9_measure_67 fl_X9_21 r_6_4 ?_
    refine tz_iload_n (pc := 70) dX9_measure_70 rfl rfl ?_
    refine tz_dup2 (pc := 71) dX9_measure_71 rfl rfl ?_
    refine tz_aL (pc := 72) (z := t) (v := (1 + (J 10 (J 9 ((t * 3) + 0))))) dX9_measure_72 a_10 rfl (by omega) (by simp [zup]) (fun r_72 => ?_)
    refine tz_aload_n (pc := 73) dX9_measure_73 rfl rfl ?_
    refine tz_fR (pc := 74) dX9_measure_74 fl_X9_21 r_6_4 ?_
    refine tz_iload_n (pc := 77) dX9_measure_77 rfl rfl ?_
    refine tz_aL (pc := 78) (z := (J 9 ((t * 3) + 1))) (v := (J 10 (J 9 ((t * 3) + 1)))) dX9_measure_78 a_10 rfl (by omega) (Eq.trans (show zup _ 10 t (1 + (J 10 (J 9 ((t * 3) + 0)))) 10 (J 9 ((t * 3) + 1)) = _ from zup_ne (by omega)) (Eq.trans (show zup _ 10 t 1 10 (J 9 ((t * 3) + 1)) = _ from zup_ne (by omega)) rfl)) (fun r_78 => ?_)
    refine tz_iadd (pc := 79) (v := (1 + (J 10 (J 9 ((t * 3) + 0)))) + (J 10 (J 9 ((t * 3) + 1)))) dX9_measure_79 rfl ?_
    refine tz_aS (pc := 80) (z := t) dX9_measure_80 a_10 rfl (by omega) (by omega) ?_
    refine tz_aload_n (pc := 81) dX9_measure_81 rfl rfl ?_
    refine tz_fR (pc := 82) dX9_measure_82 fl_X9_24 r_6_5 ?_
    refine tz_iload_n (pc := 85) dX9_measure_85 rfl rfl ?_
    refine tz_dup2 (pc := 86) dX9_measure_86 rfl rfl ?_
    refine tz_aL (pc := 87) (z := t) (v := ((J 11 t) + (J 11 (J 9 ((t * 3) + 0))))) dX9_measure_87 a_11 rfl (by omega) (by simp [zup]) (fun r_87 => ?_)
    refine tz_aload_n (pc := 88) dX9_measure_88 rfl rfl ?_
    refine tz_fR (pc := 89) dX9_measure_89 fl_X9_24 r_6_5 ?_
    refine tz_iload_n (pc := 92) dX9_measure_92 rfl rfl ?_
    refine tz_aL (pc := 93) (z := (J 9 ((t * 3) + 1))) (v := (J 11 (J 9 ((t * 3) + 1)))) dX9_measure_93 a_11 rfl (by omega) (Eq.trans (show zup _ 11 t ((J 11 t) + (J 11 (J 9 ((t * 3) + 0)))) 11 (J 9 ((t * 3) + 1)) = _ from zup_ne (by omega)) rfl) (fun r_93 => ?_)
    refine tz_iadd (pc := 94) (v := ((J 11 t) + (J 11 (J 9 ((t * 3) + 0)))) + (J 11 (J 9 ((t * 3) + 1)))) dX9_measure_94 rfl ?_
    refine tz_aS (pc := 95) (z := t) dX9_measure_95 a_11 rfl (by omega) (by omega) ?_
    refine tz_aload_n (pc := 96) dX9_measure_96 rfl rfl ?_
    refine tz_fR (pc := 97) dX9_measure_97 fl_X9_27 r_6_6 ?_
    refine tz_iload_n (pc := 100) dX9_measure_100 rfl rfl ?_
    refine tz_aload_n (pc := 101) dX9_measure_101 rfl rfl ?_
    refine tz_fR (pc := 102) dX9_measure_102 fl_X9_27 r_6_6 ?_
    refine tz_iload_n (pc := 105) dX9_measure_105 rfl rfl ?_
    refine tz_aL (pc := 106) (z := t) (v := (zmax 1 ((J 12 (J 9 ((t * 3) + 0))) + 1))) dX9_measure_106 a_12 rfl (by omega) (by simp [zup]) (fun r_106 => ?_)
    refine tz_aload_n (pc := 107) dX9_measure_107 rfl rfl ?_
    refine tz_fR (pc := 108) dX9_measure_108 fl_X9_27 r_6_6 ?_
    refine tz_iload_n (pc := 111) dX9_measure_111 rfl rfl ?_
    refine tz_aL (pc := 112) (z := (J 9 ((t * 3) + 1))) (v := (J 12 (J 9 ((t * 3) + 1)))) dX9_measure_112 a_12 rfl (by omega) (Eq.trans (show zup _ 12 t (zmax 1 ((J 12 (J 9 ((t * 3) + 0))) + 1)) 12 (J 9 ((t * 3) + 1)) = _ from zup_ne (by omega)) (Eq.trans (show zup _ 12 t 1 12 (J 9 ((t * 3) + 1)) = _ from zup_ne (by omega)) rfl)) (fun r_112 => ?_)
    refine tz_iconst (pc := 113) dX9_measure_113 ?_
    refine tz_iadd (pc := 114) (v := (J 12 (J 9 ((t * 3) + 1))) + 1) dX9_measure_114 rfl ?_
    have hm_115 := zmax_le (zmax 1 ((J 12 (J 9 ((t * 3) + 0))) + 1)) ((J 12 (J 9 ((t * 3) + 1))) + 1)
    refine tz_mx (pc := 115) (v := zmax (zmax 1 ((J 12 (J 9 ((t * 3) + 0))) + 1)) ((J 12 (J 9 ((t * 3) + 1))) + 1)) dX9_measure_115 ml_X9_86 (Nat.le_of_ble_eq_true rfl) (Nat.le_of_ble_eq_true rfl) (Nat.le_of_ble_eq_true rfl) (Nat.le_of_ble_eq_true rfl) (by omega) (by omega) rfl ?_
    refine tz_aS (pc := 118) (z := t) dX9_measure_118 a_12 rfl (by omega) (by omega) ?_
    refine tz_aload_n (pc := 119) dX9_measure_119 rfl rfl ?_
    refine tz_fR (pc := 120) dX9_measure_120 fl_X9_30 r_6_7 ?_
    refine tz_iload_n (pc := 123) dX9_measure_123 rfl rfl ?_
    refine tz_dup2 (pc := 124) dX9_measure_124 rfl rfl ?_
    refine tz_aL (pc := 125) (z := t) (v := (zor v0 (J 13 (J 9 ((t * 3) + 0))))) dX9_measure_125 a_13 rfl (by omega) (by simp [zup]) (fun r_125 => ?_)
    refine tz_aload_n (pc := 126) dX9_measure_126 rfl rfl ?_
    refine tz_fR (pc := 127) dX9_measure_127 fl_X9_30 r_6_7 ?_
    refine tz_iload_n (pc := 130) dX9_measure_130 rfl rfl ?_
    refine tz_aL (pc := 131) (z := (J 9 ((t * 3) + 1))) (v := (J 13 (J 9 ((t * 3) + 1)))) dX9_measure_131 a_13 rfl (by omega) (Eq.trans (show zup _ 13 t (zor v0 (J 13 (J 9 ((t * 3) + 0)))) 13 (J 9 ((t * 3) + 1)) = _ from zup_ne (by omega)) (Eq.trans (show zup _ 13 t v0 13 (J 9 ((t * 3) + 1)) = _ from zup_ne (by omega)) rfl)) (fun r_131 => ?_)
    refine tz_ior (pc := 132) (v := zor (zor v0 (J 13 (J 9 ((t * 3) + 0)))) (J 13 (J 9 ((t * 3) + 1)))) dX9_measure_132 rfl ?_
    refine tz_aS (pc := 133) (z := t) dX9_measure_133 a_13 rfl (by omega) (zor_rg _ _) ?_
    refine tz_iinc (pc := 134) (z := 2) (L2 := [_, _, _, _]) dX9_measure_134 rfl (by decide) rfl ?_
    refine tz_goto (pc := 137) (tgt := 45) dX9_measure_137 (by decide) ?_
    refine tz_iload_n (pc := 45) dX9_measure_45 rfl rfl ?_
    refine tz_aload_n (pc := 46) dX9_measure_46 rfl rfl ?_
    refine tz_fR (pc := 47) dX9_measure_47 fl_X9_15 r_6_2 ?_
    refine tz_iload_n (pc := 50) dX9_measure_50 rfl rfl ?_
    refine tz_aL (pc := 51) (z := t) (v := 3) dX9_measure_51 a_8 rfl (by omega) ha (fun _ => ?_)
    refine tz_icmp_geF (pc := 52) (tgt := 140) (by decide) dX9_measure_52 (by decide) (by decide) (by decide) ?_
    refine tz_aload_n (pc := 55) dX9_measure_55 rfl rfl ?_
    refine tz_fR (pc := 56) dX9_measure_56 fl_X9_18 r_6_3 ?_
    refine tz_iload_n (pc := 59) dX9_measure_59 rfl rfl ?_
    refine tz_iconst (pc := 60) dX9_measure_60 ?_
    refine tz_imul (pc := 61) (v := t * 3) dX9_measure_61 rfl ?_
    refine tz_iload_n (pc := 62) dX9_measure_62 rfl rfl ?_
    refine tz_iadd (pc := 63) (v := (t * 3) + 2) dX9_measure_63 rfl ?_
    refine tz_aL (pc := 64) (z := ((t * 3) + 2)) (v := (J 9 ((t * 3) + 2))) dX9_measure_64 a_9 rfl (by omega) rfl (fun r_64 => ?_)
    refine tz_istore_n (pc := 65) (L2 := [_, _, _, _]) dX9_measure_65 rfl (by decide) rfl ?_
    refine tz_aload_n (pc := 66) dX9_measure_66 rfl rfl ?_
    refine tz_fR (pc := 67) dX9_measure_67 fl_X9_21 r_6_4 ?_
    refine tz_iload_n (pc := 70) dX9_measure_70 rfl rfl ?_
    refine tz_dup2 (pc := 71) dX9_measure_71 rfl rfl ?_
    refine tz_aL (pc := 72) (z := t) (v := ((1 + (J 10 (J 9 ((t * 3) + 0)))) + (J 10 (J 9 ((t * 3) + 1))))) dX9_measure_72 a_10 rfl (by omega) (by simp [zup]) (fun r_72 => ?_)
    refine tz_aload_n (pc := 73) dX9_measure_73 rfl rfl ?_
    refine tz_fR (pc := 74) dX9_measure_74 fl_X9_21 r_6_4 ?_
    refine tz_iload_n (pc := 77) dX9_measure_77 rfl rfl ?_
    refine tz_aL (pc := 78) (z := (J 9 ((t * 3) + 2))) (v := (J 10 (J 9 ((t * 3) + 2)))) dX9_measure_78 a_10 rfl (by omega) (Eq.trans (show zup _ 10 t ((1 + (J 10 (J 9 ((t * 3) + 0)))) + (J 10 (J 9 ((t * 3) + 1)))) 10 (J 9 ((t * 3) + 2)) = _ from zup_ne (by omega)) (Eq.trans (show zup _ 10 t (1 + (J 10 (J 9 ((t * 3) + 0)))) 10 (J 9 ((t * 3) + 2)) = _ from zup_ne (by omega)) (Eq.trans (show zup _ 10 t 1 10 (J 9 ((t * 3) + 2)) = _ from zup_ne (by omega)) rfl))) (fun r_78 => ?_)
    refine tz_iadd (pc := 79) (v := ((1 + (J 10 (J 9 ((t * 3) + 0)))) + (J 10 (J 9 ((t * 3) + 1)))) + (J 10 (J 9 ((t * 3) + 2)))) dX9_measure_79 rfl ?_
    refine tz_aS (pc := 80) (z := t) dX9_measure_80 a_10 rfl (by omega) (by omega) ?_
    refine tz_aload_n (pc := 81) dX9_measure_81 rfl rfl ?_
    refine tz_fR (pc := 82) dX9_measure_82 fl_X9_24 r_6_5 ?_
    refine tz_iload_n (pc := 85) dX9_measure_85 rfl rfl ?_
    refine tz_dup2 (pc := 86) dX9_measure_86 rfl rfl ?_
    refine tz_aL (pc := 87) (z := t) (v := (((J 11 t) + (J 11 (J 9 ((t * 3) + 0)))) + (J 11 (J 9 ((t * 3) + 1))))) dX9_measure_87 a_11 rfl (by omega) (by simp [zup]) (fun r_87 => ?_)
    refine tz_aload_n (pc := 88) dX9_measure_88 rfl rfl ?_
    refine tz_fR (pc := 89) dX9_measure_89 fl_X9_24 r_6_5 ?_
    refine tz_iload_n (pc := 92) dX9_measure_92 rfl rfl ?_
    refine tz_aL (pc := 93) (z := (J 9 ((t * 3) + 2))) (v := (J 11 (J 9 ((t * 3) + 2)))) dX9_measure_93 a_11 rfl (by omega) (Eq.trans (show zup _ 11 t (((J 11 t) + (J 11 (J 9 ((t * 3) + 0)))) + (J 11 (J 9 ((t * 3) + 1)))) 11 (J 9 ((t * 3) + 2)) = _ from zup_ne (by omega)) (Eq.trans (show zup _ 11 t ((J 11 t) + (J 11 (J 9 ((t * 3) + 0)))) 11 (J 9 ((t * 3) + 2)) = _ from zup_ne (by omega)) rfl)) (fun r_93 => ?_)
    refine tz_iadd (pc := 94) (v := (((J 11 t) + (J 11 (J 9 ((t * 3) + 0)))) + (J 11 (J 9 ((t * 3) + 1)))) + (J 11 (J 9 ((t * 3) + 2)))) dX9_measure_94 rfl ?_
    refine tz_aS (pc := 95) (z := t) dX9_measure_95 a_11 rfl (by omega) (by omega) ?_
    refine tz_aload_n (pc := 96) dX9_measure_96 rfl rfl ?_
    refine tz_fR (pc := 97) dX9_measure_97 fl_X9_27 r_6_6 ?_
    refine tz_iload_n (pc := 100) dX9_measure_100 rfl rfl ?_
    refine tz_aload_n (pc := 101) dX9_measure_101 rfl rfl ?_
    refine tz_fR (pc := 102) dX9_measure_102 fl_X9_27 r_6_6 ?_
    refine tz_iload_n (pc := 105) dX9_measure_105 rfl rfl ?_
    refine tz_aL (pc := 106) (z := t) (v := (zmax (zmax 1 ((J 12 (J 9 ((t * 3) + 0))) + 1)) ((J 12 (J 9 ((t * 3) + 1))) + 1))) dX9_measure_106 a_12 rfl (by omega) (by simp [zup]) (fun r_106 => ?_)
    refine tz_aload_n (pc := 107) dX9_measure_107 rfl rfl ?_
    refine tz_fR (pc := 108) dX9_measure_108 fl_X9_27 r_6_6 ?_
    refine tz_iload_n (pc := 111) dX9_measure_111 rfl rfl ?_
    refine tz_aL (pc := 112) (z := (J 9 ((t * 3) + 2))) (v := (J 12 (J 9 ((t * 3) + 2)))) dX9_measure_112 a_12 rfl (by omega) (Eq.trans (show zup _ 12 t (zmax (zmax 1 ((J 12 (J 9 ((t * 3) + 0))) + 1)) ((J 12 (J 9 ((t * 3) + 1))) + 1)) 12 (J 9 ((t * 3) + 2)) = _ from zup_ne (by omega)) (Eq.trans (show zup _ 12 t (zmax 1 ((J 12 (J 9 ((t * 3) + 0))) + 1)) 12 (J 9 ((t * 3) + 2)) = _ from zup_ne (by omega)) (Eq.trans (show zup _ 12 t 1 12 (J 9 ((t * 3) + 2)) = _ from zup_ne (by omega)) rfl))) (fun r_112 => ?_)
    refine tz_iconst (pc := 113) dX9_measure_113 ?_
    refine tz_iadd (pc := 114) (v := (J 12 (J 9 ((t * 3) + 2))) + 1) dX9_measure_114 rfl ?_
    have hm_115 := zmax_le (zmax (zmax 1 ((J 12 (J 9 ((t * 3) + 0))) + 1)) ((J 12 (J 9 ((t * 3) + 1))) + 1)) ((J 12 (J 9 ((t * 3) + 2))) + 1)
    refine tz_mx (pc := 115) (v := zmax (zmax (zmax 1 ((J 12 (J 9 ((t * 3) + 0))) + 1)) ((J 12 (J 9 ((t * 3) + 1))) + 1)) ((J 12 (J 9 ((t * 3) + 2))) + 1)) dX9_measure_115 ml_X9_86 (Nat.le_of_ble_eq_true rfl) (Nat.le_of_ble_eq_true rfl) (Nat.le_of_ble_eq_true rfl) (Nat.le_of_ble_eq_true rfl) (by omega) (by omega) rfl ?_
    refine tz_aS (pc := 118) (z := t) dX9_measure_118 a_12 rfl (by omega) (by omega) ?_
    refine tz_aload_n (pc := 119) dX9_measure_119 rfl rfl ?_
    refine tz_fR (pc := 120) dX9_measure_120 fl_X9_30 r_6_7 ?_
    refine tz_iload_n (pc := 123) dX9_measure_123 rfl rfl ?_
    refine tz_dup2 (pc := 124) dX9_measure_124 rfl rfl ?_
    refine tz_aL (pc := 125) (z := t) (v := (zor (zor v0 (J 13 (J 9 ((t * 3) + 0)))) (J 13 (J 9 ((t * 3) + 1))))) dX9_measure_125 a_13 rfl (by omega) (by simp [zup]) (fun r_125 => ?_)
    refine tz_aload_n (pc := 126) dX9_measure_126 rfl rfl ?_
    refine tz_fR (pc := 127) dX9_measure_127 fl_X9_30 r_6_7 ?_
    refine tz_iload_n (pc := 130) dX9_measure_130 rfl rfl ?_
    refine tz_aL (pc := 131) (z := (J 9 ((t * 3) + 2))) (v := (J 13 (J 9 ((t * 3) + 2)))) dX9_measure_131 a_13 rfl (by omega) (Eq.trans (show zup _ 13 t (zor (zor v0 (J 13 (J 9 ((t * 3) + 0)))) (J 13 (J 9 ((t * 3) + 1)))) 13 (J 9 ((t * 3) + 2)) = _ from zup_ne (by omega)) (Eq.trans (show zup _ 13 t (zor v0 (J 13 (J 9 ((t * 3) + 0)))) 13 (J 9 ((t * 3) + 2)) = _ from zup_ne (by omega)) (Eq.trans (show zup _ 13 t v0 13 (J 9 ((t * 3) + 2)) = _ from zup_ne (by omega)) rfl))) (fun r_131 => ?_)
    refine tz_ior (pc := 132) (v := zor (zor (zor v0 (J 13 (J 9 ((t * 3) + 0)))) (J 13 (J 9 ((t * 3) + 1)))) (J 13 (J 9 ((t * 3) + 2)))) dX9_measure_132 rfl ?_
    refine tz_aS (pc := 133) (z := t) dX9_measure_133 a_13 rfl (by omega) (zor_rg _ _) ?_
    refine tz_iinc (pc := 134) (z := 3) (L2 := [_, _, _, _]) dX9_measure_134 rfl (by decide) rfl ?_
    refine tz_goto (pc := 137) (tgt := 45) dX9_measure_137 (by decide) ?_
    refine tz_iload_n (pc := 45) dX9_measure_45 rfl rfl ?_
    refine tz_aload_n (pc := 46) dX9_measure_46 rfl rfl ?_
    refine tz_fR (pc := 47) dX9_measure_47 fl_X9_15 r_6_2 ?_
    refine tz_iload_n (pc := 50) dX9_measure_50 rfl rfl ?_
    refine tz_aL (pc := 51) (z := t) (v := 3) dX9_measure_51 a_8 rfl (by omega) ha (fun _ => ?_)
    refine tz_icmp_geT (pc := 52) (tgt := 140) (by decide) dX9_measure_52 (by decide) (by decide) (by decide) ?_
    exact tz_vret (pc := 140) dX9_measure_140 rfl (Nat.le_of_ble_eq_true rfl) (Nat.le_of_ble_eq_true rfl) ⟨Nat.le_refl _, Nat.le_add_right _ _⟩ ⟨rfl, ⟨(zOf.up rfl (zOf.up rfl (zOf.up rfl (zOf.up rfl (zOf.up rfl (zOf.up rfl (zOf.up rfl (zOf.up rfl (zOf.up rfl (zOf.up rfl (zOf.up rfl (zOf.up rfl (zOf.up rfl (zOf.up rfl (zOf.up rfl zOf.rf))))))))))))))), fun k hk => ⟨by simp [zup, hk], by simp [zup, hk], by simp [zup, hk], by simp [zup, hk]⟩, (Eq.trans (b := (((1 + (J 10 (J 9 ((t * 3) + 0)))) + (J 10 (J 9 ((t * 3) + 1)))) + (J 10 (J 9 ((t * 3) + 2))))) (by simp [zup]) (by simp [zs3, ha] <;> omega)), (Eq.trans (b := ((((J 11 t) + (J 11 (J 9 ((t * 3) + 0)))) + (J 11 (J 9 ((t * 3) + 1)))) + (J 11 (J 9 ((t * 3) + 2))))) (by simp [zup]) (by simp [zw3, ha] <;> omega)), (Eq.trans (b := (zmax (zmax (zmax 1 ((J 12 (J 9 ((t * 3) + 0))) + 1)) ((J 12 (J 9 ((t * 3) + 1))) + 1)) ((J 12 (J 9 ((t * 3) + 2))) + 1))) (by simp [zup]) (by simp [zd3, ha] <;> omega)), (Eq.trans (b := (zor (zor (zor v0 (J 13 (J 9 ((t * 3) + 0)))) (J 13 (J 9 ((t * 3) + 1)))) (J 13 (J 9 ((t * 3) + 2))))) (by simp [zup]) (by simp [zv3, ha, hj_42]))⟩⟩
  refine tz_if_ge (pc := 25) (tgt := 41) dX9_measure_25 (by decide) (by omega) (fun h_25 => ?_) (fun h_25 => ?_)
  · refine tz_iconst (pc := 41) dX9_measure_41 ?_
    exact join42 0 (by decide) (by unfold zv0; split <;> first | rfl | omega)
  · refine tz_iconst (pc := 28) dX9_measure_28 ?_
    refine tz_aload_n (pc := 29) dX9_measure_29 rfl rfl ?_
    refine tz_fR (pc := 30) dX9_measure_30 fl_X9_11 r_6_1 ?_
    refine tz_iload_n (pc := 33) dX9_measure_33 rfl rfl ?_
    refine tz_aL (pc := 34) (z := t) (v := (J 7 t)) dX9_measure_34 a_7 rfl (by omega) rfl (fun r_34 => ?_)
    refine tz_iconst (pc := 35) dX9_measure_35 ?_
    refine tz_ixor (pc := 36) (v := zxor (J 7 t) (-1)) dX9_measure_36 rfl ?_
    refine tz_ishl (pc := 37) (v := zshl 1 (zxor (J 7 t) (-1))) dX9_measure_37 rfl ?_
    refine tz_goto (pc := 38) (tgt := 42) dX9_measure_38 (by decide) ?_
    exact join42 (zshl 1 (zxor (J 7 t) (-1))) (zshl_rg _ _) (by unfold zv0; split <;> first | rfl | omega)

theorem c_measure {l : Launch} {G : tb_G} (hl : l.stackTraces = false) (n : Nat) (J : zJ) (t : Int) (hr_t : -2147483648 ≤ t ∧ t < 2147483648) (h0 : 0 ≤ t ∧ t < 401) (hw : 0 ≤ J 11 t ∧ J 11 t ≤ 9) (hp : ∀ i, 0 ≤ i → i < J 8 t → (0 ≤ J 9 (t * 3 + i) ∧ J 9 (t * 3 + i) < t) ∧ (0 ≤ J 10 (J 9 (t * 3 + i)) ∧ J 10 (J 9 (t * 3 + i)) ≤ 364) ∧ (0 ≤ J 11 (J 9 (t * 3 + i)) ∧ J 11 (J 9 (t * 3 + i)) ≤ 4000) ∧ 0 ≤ J 12 (J 9 (t * 3 + i)) ∧ J 12 (J 9 (t * 3 + i)) ≤ 6) (ha : 0 ≤ J 8 t ∧ J 8 t ≤ 3) : tz_Ok l G M_X9_measure 1 0 0 [.ref 6, zi t] n J (zqv (fun J' => zOf (zbut [10, 11, 12, 13]) J' J ∧ (∀ k, ¬ k = t → J' 10 k = J 10 k ∧ J' 11 k = J 11 k ∧ J' 12 k = J 12 k ∧ J' 13 k = J 13 k) ∧ J' 10 t = 1 + zs3 J t ∧ J' 11 t = J 11 t + zw3 J t ∧ J' 12 t = zd3 J t ∧ J' 13 t = zv3 J t)) zN := by
  rcases (show J 8 t = 0 ∨ J 8 t = 1 ∨ J 8 t = 2 ∨ J 8 t = 3 by omega) with h | h | h | h
  · exact c_meas0 hl n J t hr_t h0 hw hp h
  · exact c_meas1 hl n J t hr_t h0 hw hp h
  · exact c_meas2 hl n J t hr_t h0 hw hp h
  · exact c_meas3 hl n J t hr_t h0 hw hp h
end
section
/-! ===== the class's table, said again after writes ===== -/
/-- the rows alike below m -/
def zSU (J' J : zJ) (m : Int) : Prop := (∀ t, 0 ≤ t → t < m → J' 7 t = J 7 t ∧ J' 8 t = J 8 t ∧ J' 10 t = J 10 t ∧ J' 11 t = J 11 t ∧ J' 12 t = J 12 t ∧ J' 13 t = J 13 t ∧ J' 14 t = J 14 t ∧ J' 15 t = J 15 t) ∧ ∀ k, 0 ≤ k → k < m * 3 → J' 9 k = J 9 k
theorem zSU.rf {J : zJ} {m : Int} : zSU J J m := ⟨fun _ _ _ => ⟨rfl, rfl, rfl, rfl, rfl, rfl, rfl, rfl⟩, fun _ _ _ => rfl⟩
theorem zSU.tr {J3 J2 J1 : zJ} {m : Int} (h : zSU J3 J2 m) (g : zSU J2 J1 m) : zSU J3 J1 m := by
  refine ⟨fun t a b => ?_, fun k a b => (h.2 k a b).trans (g.2 k a b)⟩
  obtain ⟨h1, h2, h3, h4, h5, h6, h7, h8⟩ := h.1 t a b
  obtain ⟨g1, g2, g3, g4, g5, g6, g7, g8⟩ := g.1 t a b
  exact ⟨h1.trans g1, h2.trans g2, h3.trans g3, h4.trans g4, h5.trans g5, h6.trans g6, h7.trans g7, h8.trans g8⟩
theorem zSU.cut {J' J : zJ} {m m' : Int} (h : zSU J' J m) (hm : m' ≤ m) : zSU J' J m' := ⟨fun t a b => h.1 t a (by omega), fun k a b => h.2 k a (by omega)⟩
theorem cTT.ar {J : zJ} {m t : Int} (h : cTT J m) (h0 : 0 ≤ t) (h1 : t < m) : 0 ≤ arh (J 3) (J 7 t) ∧ arh (J 3) (J 7 t) ≤ 3 := arh_rg h.1 (h.2.2.1 t h0 h1).1.2
theorem zbk_congr {J J' : zJ} {t : Int} (h7 : J' 7 t = J 7 t) (h8 : J' 8 t = J 8 t) (h9 : ∀ i, 0 ≤ i → i < J 8 t → J' 14 (J' 9 (t * 3 + i)) = J 14 (J 9 (t * 3 + i))) (h0 : 0 ≤ J 8 t) : zbk J' t = zbk J t := by
  unfold zbk
  rw [h8, zmx_congr (J 8 t).toNat h7 (fun i a b => h9 i a (by omega))]
theorem CT.arg {J : zJ} {m t i : Int} (h : CT J m) (h0 : 0 ≤ t) (h1 : t < m) (hi : 0 ≤ i) (hi2 : i < J 8 t) : (0 ≤ J 9 (t * 3 + i) ∧ J 9 (t * 3 + i) < t) ∧ J 12 (J 9 (t * 3 + i)) < J 12 t := (h.1.1.2.2.1 t h0 h1).2.2.1 i hi (by rw [← (h.2.1 t h0 h1).1.1]; exact hi2)
theorem CT.ar {J : zJ} {m t : Int} (h : CT J m) (h0 : 0 ≤ t) (h1 : t < m) : (0 ≤ J 8 t ∧ J 8 t ≤ 3) ∧ (J 7 t < 0 → J 8 t = 0) ∧ (-8 ≤ J 7 t ∧ J 7 t < J 1 3) := by
  have h2 := (h.2.1 t h0 h1).1.1
  have h3 := h.1.1.ar h0 h1
  rw [h2]
  refine ⟨h3, fun h4 => ?_, (h.1.1.2.2.1 t h0 h1).1⟩
  unfold arh
  rw [if_pos h4]
theorem CT.told {J : zJ} {m : Int} (h : CT J m) : (0 ≤ J 1 3 ∧ J 1 3 ≤ 10) ∧ (0 ≤ m ∧ m ≤ 400) := ⟨h.1.1.1.1, h.1.1.2.1⟩
/-- sizes, weights, depths, of a term that is there -/
theorem CT.nums {J : zJ} {m t : Int} (h : CT J m) (h0 : 0 ≤ t) (h1 : t < m) : (1 ≤ J 10 t ∧ J 10 t ≤ 364) ∧ (1 ≤ J 11 t ∧ J 11 t ≤ 3276) ∧ (1 ≤ J 12 t ∧ J 12 t ≤ 6) := by
  obtain ⟨-, ⟨-, a, b⟩, ⟨-, c, d⟩, -⟩ := (h.2.1 t h0 h1).1
  have e := zB_rg (J 12 t)
  have f := (h.1.1.2.2.1 t h0 h1).2.1
  omega
theorem zbk_su {J' J : zJ} {m t : Int} (h : CT J m) (hs : zSU J' J m) (h0 : 0 ≤ t) (h1 : t < m) : zbk J' t = zbk J t := by
  obtain ⟨e7, e8, -, -, -, -, -, -⟩ := hs.1 t h0 h1
  refine zbk_congr e7 e8 (fun i a b => ?_) (h.ar h0 h1).1.1
  have h2 := (h.ar h0 h1).1
  have h3 := h.arg h0 h1 a b
  rw [hs.2 (t * 3 + i) (by omega) (by omega)]
  exact (hs.1 _ h3.1.1 (by omega)).2.2.2.2.2.2.1
theorem zs3_su {J' J : zJ} {t : Int} (h8 : J' 8 t = J 8 t) (h : ∀ i, 0 ≤ i → i < J 8 t → J' 10 (J' 9 (t * 3 + i)) = J 10 (J 9 (t * 3 + i))) : zs3 J' t = zs3 J t := by
  unfold zs3
  rw [h8]
  by_cases h0 : 0 < J 8 t
  · rw [if_pos h0, if_pos h0, h 0 (by decide) h0]
    by_cases h1 : 1 < J 8 t
    · rw [if_pos h1, if_pos h1, h 1 (by decide) h1]
      by_cases h2 : 2 < J 8 t
      · rw [if_pos h2, if_pos h2, h 2 (by decide) h2]
      · rw [if_neg h2, if_neg h2]
    · rw [if_neg h1, if_neg h1, if_neg (by omega), if_neg (by omega)]
  · rw [if_neg h0, if_neg h0, if_neg (by omega), if_neg (by omega), if_neg (by omega), if_neg (by omega)]
theorem zw3_su {J' J : zJ} {t : Int} (h8 : J' 8 t = J 8 t) (h : ∀ i, 0 ≤ i → i < J 8 t → J' 11 (J' 9 (t * 3 + i)) = J 11 (J 9 (t * 3 + i))) : zw3 J' t = zw3 J t := by
  unfold zw3
  rw [h8]
  by_cases h0 : 0 < J 8 t
  · rw [if_pos h0, if_pos h0, h 0 (by decide) h0]
    by_cases h1 : 1 < J 8 t
    · rw [if_pos h1, if_pos h1, h 1 (by decide) h1]
      by_cases h2 : 2 < J 8 t
      · rw [if_pos h2, if_pos h2, h 2 (by decide) h2]
      · rw [if_neg h2, if_neg h2]
    · rw [if_neg h1, if_neg h1, if_neg (by omega), if_neg (by omega)]
  · rw [if_neg h0, if_neg h0, if_neg (by omega), if_neg (by omega), if_neg (by omega), if_neg (by omega)]
theorem zv3_su {J' J : zJ} {t : Int} (h7 : J' 7 t = J 7 t) (h8 : J' 8 t = J 8 t) (h : ∀ i, 0 ≤ i → i < J 8 t → J' 13 (J' 9 (t * 3 + i)) = J 13 (J 9 (t * 3 + i))) : zv3 J' t = zv3 J t := by
  have e0 : zv0 J' t = zv0 J t := by unfold zv0; rw [h7]
  unfold zv3
  rw [h8, e0]
  by_cases h0 : J 8 t ≤ 0
  · rw [if_pos h0, if_pos h0]
  · rw [if_neg h0, if_neg h0, h 0 (by decide) (by omega)]
    by_cases h1 : J 8 t ≤ 1
    · rw [if_pos h1, if_pos h1]
    · rw [if_neg h1, if_neg h1, h 1 (by decide) (by omega)]
      by_cases h2 : J 8 t ≤ 2
      · rw [if_pos h2, if_pos h2]
      · rw [if_neg h2, if_neg h2, h 2 (by decide) (by omega)]
theorem cR1_su {J' J : zJ} {m t : Int} (h : CT J m) (h3 : J' 3 = J 3) (h4 : J' 4 = J 4) (hs : zSU J' J m) (h0 : 0 ≤ t) (h1 : t < m) : cR1 J' t := by
  obtain ⟨a, ⟨b1, b2⟩, ⟨c1, c2⟩, d⟩ := (h.2.1 t h0 h1).1
  obtain ⟨e7, e8, e10, e11, e12, e13, e14, e15⟩ := hs.1 t h0 h1
  have har := (h.ar h0 h1).1
  have hg : ∀ i, 0 ≤ i → i < J 8 t → J' 9 (t * 3 + i) = J 9 (t * 3 + i) ∧ (0 ≤ J 9 (t * 3 + i) ∧ J 9 (t * 3 + i) < m) := fun i x y => by
    have := h.arg h0 h1 x y
    exact ⟨hs.2 _ (by omega) (by omega), by omega⟩
  refine ⟨by rw [e8, e7, h3]; exact a, ⟨?_, by rw [e10, e12]; exact b2⟩, ⟨?_, by rw [e11, e10]; exact c2⟩, ?_⟩
  · rw [e10, zs3_su e8 (fun i x y => by rw [(hg i x y).1]; exact (hs.1 _ (hg i x y).2.1 (hg i x y).2.2).2.2.1)]
    exact b1
  · rw [e11, e7, h4, zw3_su e8 (fun i x y => by rw [(hg i x y).1]; exact (hs.1 _ (hg i x y).2.1 (hg i x y).2.2).2.2.2.1)]
    exact c1
  · rw [e13, zv3_su e7 e8 (fun i x y => by rw [(hg i x y).1]; exact (hs.1 _ (hg i x y).2.1 (hg i x y).2.2).2.2.2.2.2.1)]
    exact d
theorem cC1_su {J' J : zJ} {m t : Int} (h : CT J m) (hs : zSU J' J m) (h0 : 0 ≤ t) (h1 : t < m) : cC1 J' t := by
  obtain ⟨a, b⟩ := (h.2.1 t h0 h1).2
  have e15 := (hs.1 t h0 h1).2.2.2.2.2.2.2
  refine ⟨?_, fun s x y z => ?_⟩
  · rw [e15]
    rcases a with a | ⟨a1, a2⟩
    · exact Or.inl a
    · refine Or.inr ⟨a1, ?_⟩
      rw [zbk_su h hs a1.1 (by omega), zbk_su h hs h0 h1]
      exact a2
  · rw [e15]
    rw [zbk_su h hs x (by omega), zbk_su h hs h0 h1] at z
    exact b s x y z
theorem cTT_su {J' J : zJ} {m : Int} (h : CT J m) (h1 : J' 1 = J 1) (h3 : J' 3 = J 3) (hs : zSU J' J m) : cTT J' m := by
  refine h.1.1.congr (by rw [h1, h3]; exact h.1.1.1) (by rw [h1]; exact Int.le_refl _) (fun k _ _ => by rw [h3]) (fun t a b => (hs.1 t a b).1) (fun t a b i x y => ?_) (fun t a b => (hs.1 t a b).2.2.2.2.1)
  have h2 := h.1.1.ar a b
  exact hs.2 (t * 3 + i) (by omega) (by omega)
theorem CT.su {J' J : zJ} {m : Int} (h : CT J m) (h1 : J' 1 = J 1) (h3 : J' 3 = J 3) (h4 : J' 4 = J 4) (h16 : J' 16 = J 16) (hs : zSU J' J m) : CT J' m := by
  refine ⟨⟨cTT_su h h1 h3 hs, by unfold cSW; rw [h1, h4]; exact h.1.2⟩, fun t a b => ⟨cR1_su h h3 h4 hs a b, cC1_su h hs a b⟩, fun b x y => ?_⟩
  obtain ⟨p, q⟩ := h.2.2 b x y
  refine ⟨?_, fun t u v w => ?_⟩
  · rw [h16]
    rcases p with p | ⟨p1, p2⟩
    · exact Or.inl p
    · exact Or.inr ⟨p1, by rw [zbk_su h hs p1.1 p1.2]; exact p2⟩
  · rw [h16]
    rw [zbk_su h hs u v] at w
    exact q t u v w
/-- the term of a head and arguments -/
def isT (J : zJ) (t h a b c : Int) : Prop := J 7 t = h ∧ (0 < arh (J 3) h → J 9 (t * 3 + 0) = a) ∧ (1 < arh (J 3) h → J 9 (t * 3 + 1) = b) ∧ (2 < arh (J 3) h → J 9 (t * 3 + 2) = c)
/-- how deep it would be -/
def dpT (J : zJ) (h a b c : Int) : Int := if arh (J 3) h ≤ 0 then 1 else if arh (J 3) h ≤ 1 then zmax 1 (J 12 a + 1) else if arh (J 3) h ≤ 2 then zmax (zmax 1 (J 12 a + 1)) (J 12 b + 1) else zmax (zmax (zmax 1 (J 12 a + 1)) (J 12 b + 1)) (J 12 c + 1)
end
section
/-! ===== one term more in the class's table ===== -/
theorem zd3_spec {J : zJ} {t : Int} (ha : 0 ≤ J 8 t ∧ J 8 t ≤ 3) : 1 ≤ zd3 J t ∧ (∀ i, 0 ≤ i → i < J 8 t → J 12 (J 9 (t * 3 + i)) + 1 ≤ zd3 J t) ∧ (zd3 J t = 1 ∨ ∃ i, (0 ≤ i ∧ i < J 8 t) ∧ zd3 J t = J 12 (J 9 (t * 3 + i)) + 1) := by
  rcases (show J 8 t = 0 ∨ J 8 t = 1 ∨ J 8 t = 2 ∨ J 8 t = 3 by omega) with h | h | h | h
  · have e : zd3 J t = 1 := by simp [zd3, h]
    rw [e, h]
    exact ⟨by omega, fun i a b => by omega, Or.inl rfl⟩
  · have e : zd3 J t = zmax 1 (J 12 (J 9 (t * 3 + 0)) + 1) := by simp [zd3, h]
    have z1 := zmax_le 1 (J 12 (J 9 (t * 3 + 0)) + 1)
    rw [e, h]
    refine ⟨by omega, fun i a b => ?_, ?_⟩
    · rw [show i = 0 by omega]
      exact z1.1.2
    · rcases z1.2 with g | g
      · exact Or.inl g
      · exact Or.inr ⟨0, by decide, g⟩
  · have e : zd3 J t = zmax (zmax 1 (J 12 (J 9 (t * 3 + 0)) + 1)) (J 12 (J 9 (t * 3 + 1)) + 1) := by simp [zd3, h]
    have z1 := zmax_le 1 (J 12 (J 9 (t * 3 + 0)) + 1)
    have z2 := zmax_le (zmax 1 (J 12 (J 9 (t * 3 + 0)) + 1)) (J 12 (J 9 (t * 3 + 1)) + 1)
    rw [e, h]
    refine ⟨by omega, fun i a b => ?_, ?_⟩
    · rcases (show i = 0 ∨ i = 1 by omega) with rfl | rfl <;> omega
    · rcases z2.2 with g | g
      · rcases z1.2 with g1 | g1
        · exact Or.inl (g.trans g1)
        · exact Or.inr ⟨0, by decide, g.trans g1⟩
      · exact Or.inr ⟨1, by decide, g⟩
  · have e : zd3 J t = zmax (zmax (zmax 1 (J 12 (J 9 (t * 3 + 0)) + 1)) (J 12 (J 9 (t * 3 + 1)) + 1)) (J 12 (J 9 (t * 3 + 2)) + 1) := by simp [zd3, h]
    have z1 := zmax_le 1 (J 12 (J 9 (t * 3 + 0)) + 1)
    have z2 := zmax_le (zmax 1 (J 12 (J 9 (t * 3 + 0)) + 1)) (J 12 (J 9 (t * 3 + 1)) + 1)
    have z3 := zmax_le (zmax (zmax 1 (J 12 (J 9 (t * 3 + 0)) + 1)) (J 12 (J 9 (t * 3 + 1)) + 1)) (J 12 (J 9 (t * 3 + 2)) + 1)
    rw [e, h]
    refine ⟨by omega, fun i a b => ?_, ?_⟩
    · rcases (show i = 0 ∨ i = 1 ∨ i = 2 by omega) with rfl | rfl | rfl <;> omega
    · rcases z3.2 with g | g
      · rcases z2.2 with g2 | g2
        · rcases z1.2 with g1 | g1
          · exact Or.inl (g.trans (g2.trans g1))
          · exact Or.inr ⟨0, by decide, g.trans (g2.trans g1)⟩
        · exact Or.inr ⟨1, by decide, g.trans g2⟩
      · exact Or.inr ⟨2, by decide, g⟩
theorem zs3_bd {J : zJ} {t Z : Int} (hZ : 1 ≤ Z) (h : ∀ i, 0 ≤ i → i < J 8 t → 0 ≤ J 10 (J 9 (t * 3 + i)) ∧ 3 * J 10 (J 9 (t * 3 + i)) + 1 ≤ Z) : 0 ≤ zs3 J t ∧ zs3 J t + 1 ≤ Z := by
  unfold zs3
  by_cases h0 : 0 < J 8 t
  · have g0 := h 0 (by decide) h0
    rw [if_pos h0]
    by_cases h1 : 1 < J 8 t
    · have g1 := h 1 (by decide) h1
      rw [if_pos h1]
      by_cases h2 : 2 < J 8 t
      · have g2 := h 2 (by decide) h2
        rw [if_pos h2]
        omega
      · rw [if_neg h2]
        omega
    · rw [if_neg h1, if_neg (by omega)]
      omega
  · rw [if_neg h0, if_neg (by omega), if_neg (by omega)]
    omega
theorem zw3_bd {J : zJ} {t : Int} (h : ∀ i, 0 ≤ i → i < J 8 t → 0 ≤ J 11 (J 9 (t * 3 + i)) ∧ J 11 (J 9 (t * 3 + i)) ≤ 9 * J 10 (J 9 (t * 3 + i))) : 0 ≤ zw3 J t ∧ zw3 J t ≤ 9 * zs3 J t := by
  unfold zw3 zs3
  by_cases h0 : 0 < J 8 t
  · have g0 := h 0 (by decide) h0
    rw [if_pos h0, if_pos h0]
    by_cases h1 : 1 < J 8 t
    · have g1 := h 1 (by decide) h1
      rw [if_pos h1, if_pos h1]
      by_cases h2 : 2 < J 8 t
      · have g2 := h 2 (by decide) h2
        rw [if_pos h2, if_pos h2]
        omega
      · rw [if_neg h2, if_neg h2]
        omega
    · rw [if_neg h1, if_neg h1, if_neg (by omega), if_neg (by omega)]
      omega
  · rw [if_neg h0, if_neg h0, if_neg (by omega), if_neg (by omega), if_neg (by omega), if_neg (by omega)]
    omega
theorem CT.push {J J' : zJ} {m h B : Int} (C : CT J m) (hm : m < 400) (e1 : J' 1 = J 1) (e3 : J' 3 = J 3) (e4 : J' 4 = J 4) (hs : zSU J' J m) (hh : -8 ≤ h ∧ h < J 1 3)
    (g7 : J' 7 m = h) (g8 : J' 8 m = arh (J 3) h) (g9 : ∀ i, 0 ≤ i → i < arh (J 3) h → 0 ≤ J' 9 (m * 3 + i) ∧ J' 9 (m * 3 + i) < m)
    (g10 : J' 10 m = 1 + zs3 J' m) (g11 : J' 11 m = (if h < 0 then 1 else J 4 h) + zw3 J' m) (g12 : J' 12 m = zd3 J' m) (hd : zd3 J' m ≤ 6) (g13 : J' 13 m = zv3 J' m)
    (g15 : J' 15 m = J 16 B) (gB : B = zbk J' m) (g16 : J' 16 B = m) (g16' : ∀ b, ¬ b = B → J' 16 b = J 16 b)
    (NS : ∀ s, 0 ≤ s → s < m → ¬ TU (J' 3) (J' 7) (fun t i => J' 9 (t * 3 + i)) s m) : CT J' (m + 1) := by
  have hm0 := C.told.2
  have ha : 0 ≤ J' 8 m ∧ J' 8 m ≤ 3 := by rw [g8]; exact arh_rg C.1.1.1 hh.2
  obtain ⟨d1, d2, d3⟩ := zd3_spec ha
  have hB := zbk_rg J' m
  have hk : ∀ t, 0 ≤ t → t < m → zbk J' t = zbk J t := fun t a b => zbk_su C hs a b
  have hcb := C.2.2 B (by omega) (by omega)
  have eqar : arh (J' 3) (J' 7 m) = J' 8 m := by rw [e3, g7, g8]
  have hn : ∀ i, 0 ≤ i → i < J' 8 m → (0 ≤ J' 9 (m * 3 + i) ∧ J' 9 (m * 3 + i) < m) ∧ (1 ≤ J' 10 (J' 9 (m * 3 + i)) ∧ J' 10 (J' 9 (m * 3 + i)) ≤ zB (J' 12 (J' 9 (m * 3 + i)))) ∧ (1 ≤ J' 11 (J' 9 (m * 3 + i)) ∧ J' 11 (J' 9 (m * 3 + i)) ≤ 9 * J' 10 (J' 9 (m * 3 + i))) ∧ (1 ≤ J' 12 (J' 9 (m * 3 + i)) ∧ J' 12 (J' 9 (m * 3 + i)) ≤ 6) := fun i a b => by
    have q := g9 i a (by rw [← g8]; exact b)
    obtain ⟨-, ⟨-, x1, x2⟩, ⟨-, y1, y2⟩, -⟩ := cR1_su C e3 e4 hs q.1 q.2
    have z := (C.nums q.1 q.2).2.2
    have z2 := (hs.1 _ q.1 q.2).2.2.2.2.1
    exact ⟨q, ⟨x1, x2⟩, ⟨y1, y2⟩, by rw [z2]; exact z⟩
  have hsz := zs3_bd (J := J') (t := m) (Z := zB (zd3 J' m)) (zB_rg _).1 (fun i a b => by
    obtain ⟨-, p2, -, p4⟩ := hn i a b
    have := d2 i a b
    have := zB_step (d := zd3 J' m) (e := J' 12 (J' 9 (m * 3 + i))) (by omega) p4.1 hd
    omega)
  have hwt := zw3_bd (J := J') (t := m) (fun i a b => by
    obtain ⟨-, -, p3, -⟩ := hn i a b
    omega)
  have hw0 : 1 ≤ (if h < 0 then 1 else J 4 h) ∧ (if h < 0 then 1 else J 4 h) ≤ 9 := by
    split
    · omega
    · exact C.1.2 h (by omega) hh.2
  refine ⟨⟨?_, by unfold cSW; rw [e1, e4]; exact C.1.2⟩, fun t a b => ?_, fun b x y => ?_⟩
  · refine (show TT (J' 1 3) (J' 3) (m + 1) (J' 7) (fun t i => J' 9 (t * 3 + i)) (J' 12) from ?_)
    rw [e1]
    have base : TT (J 1 3) (J' 3) m (J 7) (fun t i => J 9 (t * 3 + i)) (J 12) := by rw [e3]; exact C.1.1
    refine base.push hm (fun t a b => (hs.1 t a b).1) (fun t a b i x y => ?_) (fun t a b => (hs.1 t a b).2.2.2.2.1) ?_ NS
    · rw [e3] at y
      have h2 := C.1.1.ar a b
      exact hs.2 (t * 3 + i) (by omega) (by omega)
    · refine ⟨by rw [g7]; exact hh, by rw [g12]; omega, fun i a b => ?_, ?_⟩
      · rw [eqar] at b
        exact ⟨(hn i a b).1, by rw [g12]; have := d2 i a b; show J' 12 (J' 9 (m * 3 + i)) < zd3 J' m; omega⟩
      · rw [g12]
        rcases d3 with d3 | ⟨i, p, q⟩
        · exact Or.inl d3
        · exact Or.inr ⟨i, by rw [eqar]; exact p, q⟩
  · by_cases e : t = m
    · subst e
      refine ⟨⟨by rw [g8, g7, e3], ⟨g10, by omega, by rw [g12]; omega⟩, ⟨by rw [g7, e4]; exact g11, by omega, by omega⟩, g13⟩, ?_, fun s p q r => ?_⟩
      · rw [g15]
        rcases hcb.1 with p | ⟨p1, p2⟩
        · exact Or.inl p
        · exact Or.inr ⟨p1, by rw [hk _ p1.1 p1.2, p2, gB]⟩
      · rw [g15]
        rw [hk s p q, ← gB] at r
        exact hcb.2 s p q r
    · exact ⟨cR1_su C e3 e4 hs a (by omega), cC1_su C hs a (by omega)⟩
  · by_cases e : b = B
    · subst e
      rw [cB1, g16]
      exact ⟨Or.inr ⟨by omega, gB.symm⟩, fun t p q r => by omega⟩
    · obtain ⟨p, q⟩ := C.2.2 b x y
      rw [cB1, g16' b e]
      refine ⟨?_, fun t u v w => ?_⟩
      · rcases p with p | ⟨p1, p2⟩
        · exact Or.inl p
        · exact Or.inr ⟨by omega, by rw [hk _ p1.1 p1.2]; exact p2⟩
      · by_cases e2 : t = m
        · subst e2
          exact absurd (w.symm.trans gB.symm) e
        · rw [hk t u (by omega)] at w
          exact q t u (by omega) w
end
section
theorem made_e {J : zJ} {m h A w v1 v2 v3 : Int} : zOf (zbut [7, 8, 9, 11]) (zup (zup (zup (zup (zup (zup J 7 m h) 8 m A) 11 m w) 9 (m * 3) v1) 9 ((m * 3) + 1) v2) 9 ((m * 3) + 2) v3) J ∧ zSU (zup (zup (zup (zup (zup (zup J 7 m h) 8 m A) 11 m w) 9 (m * 3) v1) 9 ((m * 3) + 1) v2) 9 ((m * 3) + 2) v3) J m ∧ (zup (zup (zup (zup (zup (zup J 7 m h) 8 m A) 11 m w) 9 (m * 3) v1) 9 ((m * 3) + 1) v2) 9 ((m * 3) + 2) v3) 7 m = h ∧ (zup (zup (zup (zup (zup (zup J 7 m h) 8 m A) 11 m w) 9 (m * 3) v1) 9 ((m * 3) + 1) v2) 9 ((m * 3) + 2) v3) 8 m = A ∧ (zup (zup (zup (zup (zup (zup J 7 m h) 8 m A) 11 m w) 9 (m * 3) v1) 9 ((m * 3) + 1) v2) 9 ((m * 3) + 2) v3) 11 m = w ∧ (zup (zup (zup (zup (zup (zup J 7 m h) 8 m A) 11 m w) 9 (m * 3) v1) 9 ((m * 3) + 1) v2) 9 ((m * 3) + 2) v3) 9 (m * 3 + 0) = v1 ∧ (zup (zup (zup (zup (zup (zup J 7 m h) 8 m A) 11 m w) 9 (m * 3) v1) 9 ((m * 3) + 1) v2) 9 ((m * 3) + 2) v3) 9 (m * 3 + 1) = v2 ∧ (zup (zup (zup (zup (zup (zup J 7 m h) 8 m A) 11 m w) 9 (m * 3) v1) 9 ((m * 3) + 1) v2) 9 ((m * 3) + 2) v3) 9 (m * 3 + 2) = v3 := by
  refine ⟨zOf.up rfl (zOf.up rfl (zOf.up rfl (zOf.up rfl (zOf.up rfl (zOf.up rfl zOf.rf))))), ⟨fun t a b => ⟨?_, ?_, rfl, ?_, rfl, rfl, rfl, rfl⟩, fun k a b => ?_⟩, ?_, ?_, ?_, ?_, ?_, ?_⟩
  · show (if t = m then h else J 7 t) = J 7 t
    rw [if_neg (by omega)]
  · show (if t = m then A else J 8 t) = J 8 t
    rw [if_neg (by omega)]
  · show (if t = m then w else J 11 t) = J 11 t
    rw [if_neg (by omega)]
  · show (if k = (m * 3) + 2 then v3 else if k = (m * 3) + 1 then v2 else if k = m * 3 then v1 else J 9 k) = J 9 k
    rw [if_neg (by omega), if_neg (by omega), if_neg (by omega)]
  · show (if m = m then h else J 7 m) = h
    rw [if_pos rfl]
  · show (if m = m then A else J 8 m) = A
    rw [if_pos rfl]
  · show (if m = m then w else J 11 m) = w
    rw [if_pos rfl]
  · show (if m * 3 + 0 = (m * 3) + 2 then v3 else if m * 3 + 0 = (m * 3) + 1 then v2 else if m * 3 + 0 = m * 3 then v1 else J 9 (m * 3 + 0)) = v1
    rw [if_neg (by omega), if_neg (by omega), if_pos (by omega)]
  · show (if m * 3 + 1 = (m * 3) + 2 then v3 else if m * 3 + 1 = (m * 3) + 1 then v2 else if m * 3 + 1 = m * 3 then v1 else J 9 (m * 3 + 1)) = v2
    rw [if_neg (by omega), if_pos rfl]
  · show (if m * 3 + 2 = (m * 3) + 2 then v3 else if m * 3 + 2 = (m * 3) + 1 then v2 else if m * 3 + 2 = m * 3 then v1 else J 9 (m * 3 + 2)) = v3
    rw [if_pos rfl]
/-- the arguments that count, where none is missing -/
def okA (A a b c : Int) : Prop := (0 < A → 0 ≤ a) ∧ (1 < A → 0 ≤ b) ∧ (2 < A → 0 ≤ c)
def ltA (A a b c m : Int) : Prop := (0 < A → a < m) ∧ (1 < A → b < m) ∧ (2 < A → c < m)
theorem made_a {X : Int → Int} {A a b c m v1 v2 v3 : Int} (hA : 0 ≤ A ∧ A ≤ 3) (e1 : v1 = if 0 < A then a else -1) (e2 : v2 = if 1 < A then b else -1) (e3 : v3 = if 2 < A then c else -1) (hn : okA A a b c) (hx : ltA A a b c m) (g0 : X 0 = v1) (g1 : X 1 = v2) (g2 : X 2 = v3) : ∀ i, 0 ≤ i → i < A → 0 ≤ X i ∧ X i < m := by
  intro i h0 h1
  rcases (show i = 0 ∨ i = 1 ∨ i = 2 by omega) with rfl | rfl | rfl
  · rw [g0, e1, if_pos h1]
    exact ⟨hn.1 h1, hx.1 h1⟩
  · rw [g1, e2, if_pos h1]
    exact ⟨hn.2.1 h1, hx.2.1 h1⟩
  · rw [g2, e3, if_pos h1]
    exact ⟨hn.2.2 h1, hx.2.2 h1⟩
/-- the same as the one that is laid at m -/
def smT (J1 : zJ) (t m : Int) : Prop := J1 7 t = J1 7 m ∧ ∀ j, 0 ≤ j → j < J1 8 m → J1 9 (t * 3 + j) = J1 9 (m * 3 + j)
theorem smT_isT {J J1 : zJ} {m t h A a b c v1 v2 v3 : Int} (C : CT J m) (s1 : zSU J1 J m) (hA : 0 ≤ A ∧ A ≤ 3) (eA : A = arh (J 3) h) (g7 : J1 7 m = h) (g8 : J1 8 m = A) (e1 : v1 = if 0 < A then a else -1) (e2 : v2 = if 1 < A then b else -1) (e3 : v3 = if 2 < A then c else -1) (g0 : J1 9 (m * 3 + 0) = v1) (g1 : J1 9 (m * 3 + 1) = v2) (g2 : J1 9 (m * 3 + 2) = v3) (h0 : 0 ≤ t) (h1 : t < m) : smT J1 t m ↔ isT J t h a b c := by
  have k7 := (s1.1 t h0 h1).1
  have q0 := s1.2 (t * 3 + 0) (by omega) (by omega)
  have q1 := s1.2 (t * 3 + 1) (by omega) (by omega)
  have q2 := s1.2 (t * 3 + 2) (by omega) (by omega)
  unfold smT isT
  rw [← eA, g7, g8, k7]
  constructor
  · rintro ⟨p, q⟩
    refine ⟨p, fun x => ?_, fun x => ?_, fun x => ?_⟩
    · have := q 0 (by decide) x
      rw [q0, g0, e1, if_pos x] at this
      exact this
    · have := q 1 (by decide) x
      rw [q1, g1, e2, if_pos x] at this
      exact this
    · have := q 2 (by decide) x
      rw [q2, g2, e3, if_pos x] at this
      exact this
  · rintro ⟨p, p0, p1, p2⟩
    refine ⟨p, fun j x y => ?_⟩
    rcases (show j = 0 ∨ j = 1 ∨ j = 2 by omega) with rfl | rfl | rfl
    · rw [q0, g0, e1, if_pos y]
      exact p0 y
    · rw [q1, g1, e2, if_pos y]
      exact p1 y
    · rw [q2, g2, e3, if_pos y]
      exact p2 y
theorem zmx_same {J : zJ} {t m : Int} : ∀ (k : Nat), J 7 t = J 7 m → (∀ j : Int, 0 ≤ j → j < k → J 9 (t * 3 + j) = J 9 (m * 3 + j)) → zmx J t k = zmx J m k
  | 0, h, _ => by simp only [zmx, h]
  | k + 1, h, h2 => by
    simp only [zmx]
    rw [zmx_same k h (fun i a b => h2 i a (by omega)), h2 (k : Int) (by omega) (by omega)]
theorem zbk_same {J : zJ} {t m : Int} (h7 : J 7 t = J 7 m) (h8 : J 8 t = J 8 m) (h0 : 0 ≤ J 8 m) (h9 : ∀ j, 0 ≤ j → j < J 8 m → J 9 (t * 3 + j) = J 9 (m * 3 + j)) : zbk J t = zbk J m := by
  unfold zbk
  rw [h8, zmx_same (J 8 m).toNat h7 (fun i a b => h9 i a (by omega))]
theorem smT_bk {J1 : zJ} {m t : Int} (C1 : CT J1 m) (h0 : 0 ≤ t) (h1 : t < m) (h8 : J1 8 m = arh (J1 3) (J1 7 m)) (h : smT J1 t m) : zbk J1 t = zbk J1 m := by
  have e8 : J1 8 t = J1 8 m := by rw [(C1.2.1 t h0 h1).1.1, h.1, h8]
  have h9 := (C1.ar h0 h1).1
  exact zbk_same h.1 e8 (by omega) h.2
def NST (J : zJ) (m h a b c : Int) : Prop := ∀ t, 0 ≤ t → t < m → ¬ isT J t h a b c
def madeP (J : zJ) (m h a b c : Int) (z : Int) (J' : zJ) : Prop := zOf (zbut [6, 7, 8, 9, 10, 11, 12, 13, 14, 15, 16, 17]) J' J ∧ zSU J' J m ∧
  (((z = -3 ∧ (¬ okA (arh (J 3) h) a b c ∨ (NST J m h a b c ∧ (m = 400 ∨ 6 < dpT J h a b c)))) ∧ J' 6 12 = m ∧ CT J' m) ∨
   (((0 ≤ z ∧ z < m) ∧ isT J z h a b c ∧ okA (arh (J 3) h) a b c) ∧ J' 6 12 = m ∧ CT J' m) ∨
   ((z = m ∧ m < 400 ∧ NST J m h a b c ∧ okA (arh (J 3) h) a b c ∧ dpT J h a b c ≤ 6) ∧ J' 6 12 = m + 1 ∧ CT J' (m + 1) ∧ isT J' m h a b c))
theorem made_w {J J1 : zJ} (f0 : zOf (zbut [7, 8, 9, 11]) J1 J) {J2 : zJ} (fr : zOf (zbut [14]) J2 J1) : zOf (zbut [6, 7, 8, 9, 10, 11, 12, 13, 14, 15, 16, 17]) J2 J := (zOf.mono fr (fun c hc => by simp [zbut] at hc ⊢; omega)).tr (zOf.mono f0 (fun c hc => by simp [zbut] at hc ⊢; omega))
theorem made_s {J2 J1 : zJ} {m : Int} (fr : zOf (zbut [14]) J2 J1) (f14 : ∀ t, 0 ≤ t → t < m → J2 14 t = J1 14 t) : zSU J2 J1 m := by
  refine ⟨fun t a b => ⟨?_, ?_, ?_, ?_, ?_, ?_, f14 t a b, ?_⟩, fun k a b => ?_⟩
  · rw [fr 7 rfl]
  · rw [fr 8 rfl]
  · rw [fr 10 rfl]
  · rw [fr 11 rfl]
  · rw [fr 12 rfl]
  · rw [fr 13 rfl]
  · rw [fr 15 rfl]
  · rw [fr 9 rfl]
theorem made_dp {J J2 : zJ} {m h A a b c v1 v2 v3 : Int} (hA : 0 ≤ A ∧ A ≤ 3) (eA : A = arh (J 3) h) (g8 : J2 8 m = A) (e1 : v1 = if 0 < A then a else -1) (e2 : v2 = if 1 < A then b else -1) (e3 : v3 = if 2 < A then c else -1) (g0 : J2 9 (m * 3 + 0) = v1) (g1 : J2 9 (m * 3 + 1) = v2) (g2 : J2 9 (m * 3 + 2) = v3) (e12 : J2 12 = J 12) : zd3 J2 m = dpT J h a b c := by
  unfold zd3 dpT
  rw [← eA, g8, g0, g1, g2, e12, e1, e2, e3]
  by_cases x0 : A ≤ 0
  · rw [if_pos x0, if_pos x0]
  · rw [if_neg x0, if_neg x0, if_pos (show 0 < A by omega)]
    by_cases x1 : A ≤ 1
    · rw [if_pos x1, if_pos x1]
    · rw [if_neg x1, if_neg x1, if_pos (show 1 < A by omega)]
      by_cases x2 : A ≤ 2
      · rw [if_pos x2, if_pos x2]
      · rw [if_neg x2, if_neg x2, if_pos (show 2 < A by omega)]
theorem made_full {J J1 J2 J3 : zJ} {m h A a b c v1 v2 v3 : Int} (C : CT J m) (hm : J 6 12 = m) (s1 : zSU J1 J m) (f0 : zOf (zbut [7, 8, 9, 11]) J1 J) (C1 : CT J1 m) (fr : zOf (zbut [14]) J2 J1) (f14 : ∀ t, 0 ≤ t → t < m → J2 14 t = J1 14 t) (p0 : zOf (zbut [10, 11, 12, 13]) J3 J2) (pk : ∀ k, ¬ k = m → J3 10 k = J2 10 k ∧ J3 11 k = J2 11 k ∧ J3 12 k = J2 12 k ∧ J3 13 k = J2 13 k) (hA : 0 ≤ A ∧ A ≤ 3) (eA : A = arh (J 3) h) (g7 : J1 7 m = h) (g8 : J1 8 m = A) (e1 : v1 = if 0 < A then a else -1) (e2 : v2 = if 1 < A then b else -1) (e3 : v3 = if 2 < A then c else -1) (g0 : J1 9 (m * 3 + 0) = v1) (g1 : J1 9 (m * 3 + 1) = v2) (g2 : J1 9 (m * 3 + 2) = v3) (NS : ∀ t, 0 ≤ t → t < m → ¬ smT J1 t m) (q12 : J3 12 m = zd3 J2 m) (hf : 400 ≤ m ∨ 6 < J3 12 m) : madeP J m h a b c (-3) J3 := by
  have s3 : zSU J3 J2 m := by
    refine ⟨fun t x y => ?_, fun k x y => by rw [p0 9 rfl]⟩
    obtain ⟨k1, k2, k3, k4⟩ := pk t (by omega)
    exact ⟨by rw [p0 7 rfl], by rw [p0 8 rfl], k1, k2, k3, k4, by rw [p0 14 rfl], by rw [p0 15 rfl]⟩
  have s2 := made_s fr f14
  have ht := C.told
  refine ⟨(zOf.mono p0 (fun c hc => by simp [zbut] at hc ⊢; omega)).tr (made_w f0 fr), s3.tr (s2.tr s1), Or.inl ⟨⟨rfl, Or.inr ⟨fun t x y z => NS t x y ((smT_isT C s1 hA eA g7 g8 e1 e2 e3 g0 g1 g2 x y).mpr z), ?_⟩⟩, ?_, ?_⟩⟩
  · rw [q12, made_dp hA eA (by rw [fr 8 rfl]; exact g8) e1 e2 e3 (by rw [fr 9 rfl]; exact g0) (by rw [fr 9 rfl]; exact g1) (by rw [fr 9 rfl]; exact g2) ((fr 12 rfl).trans (f0 12 rfl))] at hf
    omega
  · rw [p0 6 rfl, fr 6 rfl, f0 6 rfl]
    exact hm
  · exact C1.su ((p0 1 rfl).trans (fr 1 rfl)) ((p0 3 rfl).trans (fr 3 rfl)) ((p0 4 rfl).trans (fr 4 rfl)) ((p0 16 rfl).trans (fr 16 rfl)) (s3.tr s2)
theorem made_fin {J J1 J2 J3 : zJ} {m h A w a b c v1 v2 v3 : Int} (C : CT J m) (hm : J 6 12 = m) (hh : -8 ≤ h ∧ h < J 1 3) (s1 : zSU J1 J m) (f0 : zOf (zbut [7, 8, 9, 11]) J1 J) (C1 : CT J1 m) (fr : zOf (zbut [14]) J2 J1) (f14 : ∀ t, 0 ≤ t → t < m → J2 14 t = J1 14 t) (p0 : zOf (zbut [10, 11, 12, 13]) J3 J2) (pk : ∀ k, ¬ k = m → J3 10 k = J2 10 k ∧ J3 11 k = J2 11 k ∧ J3 12 k = J2 12 k ∧ J3 13 k = J2 13 k) (hA : 0 ≤ A ∧ A ≤ 3) (eA : A = arh (J 3) h) (g7 : J1 7 m = h) (g8 : J1 8 m = A) (g11 : J1 11 m = w) (ew : w = if h < 0 then 1 else J 4 h) (e1 : v1 = if 0 < A then a else -1) (e2 : v2 = if 1 < A then b else -1) (e3 : v3 = if 2 < A then c else -1) (g0 : J1 9 (m * 3 + 0) = v1) (g1 : J1 9 (m * 3 + 1) = v2) (g2 : J1 9 (m * 3 + 2) = v3) (hok : okA (arh (J 3) h) a b c) (hargs : ∀ i, 0 ≤ i → i < A → 0 ≤ J1 9 (m * 3 + i) ∧ J1 9 (m * 3 + i) < m) (NS : ∀ t, 0 ≤ t → t < m → ¬ smT J1 t m) (q10 : J3 10 m = 1 + zs3 J2 m) (q11 : J3 11 m = J2 11 m + zw3 J2 m) (q12 : J3 12 m = zd3 J2 m) (q13 : J3 13 m = zv3 J2 m) (hm4 : m < 400) (hd : J3 12 m ≤ 6) : madeP J m h a b c m (zup (zup (zup J3 15 m (J1 16 (zbk J1 m))) 16 (zbk J1 m) m) 6 12 (m + 1)) := by
  have s3 : zSU J3 J2 m := by
    refine ⟨fun t x y => ?_, fun k x y => by rw [p0 9 rfl]⟩
    obtain ⟨k1, k2, k3, k4⟩ := pk t (by omega)
    exact ⟨by rw [p0 7 rfl], by rw [p0 8 rfl], k1, k2, k3, k4, by rw [p0 14 rfl], by rw [p0 15 rfl]⟩
  have s2 := made_s fr f14
  have ht := C.told
  generalize hJ : zup (zup (zup J3 15 m (J1 16 (zbk J1 m))) 16 (zbk J1 m) m) 6 12 (m + 1) = J'
  have r7 : J' 7 = J1 7 := by rw [← hJ]; exact (p0 7 rfl).trans (fr 7 rfl)
  have r8 : J' 8 = J1 8 := by rw [← hJ]; exact (p0 8 rfl).trans (fr 8 rfl)
  have r9 : J' 9 = J1 9 := by rw [← hJ]; exact (p0 9 rfl).trans (fr 9 rfl)
  have r3 : J' 3 = J 3 := by rw [← hJ]; exact (p0 3 rfl).trans ((fr 3 rfl).trans (f0 3 rfl))
  have r4 : J' 4 = J 4 := by rw [← hJ]; exact (p0 4 rfl).trans ((fr 4 rfl).trans (f0 4 rfl))
  have r1 : J' 1 = J 1 := by rw [← hJ]; exact (p0 1 rfl).trans ((fr 1 rfl).trans (f0 1 rfl))
  have r10 : J' 10 = J3 10 := by rw [← hJ]; rfl
  have r11 : J' 11 = J3 11 := by rw [← hJ]; rfl
  have r12 : J' 12 = J3 12 := by rw [← hJ]; rfl
  have r13 : J' 13 = J3 13 := by rw [← hJ]; rfl
  have r14 : J' 14 = J2 14 := by rw [← hJ]; exact p0 14 rfl
  have r15 : ∀ t, ¬ t = m → J' 15 t = J1 15 t := fun t hne => by
    rw [← hJ]
    show (if t = m then J1 16 (zbk J1 m) else J3 15 t) = J1 15 t
    rw [if_neg hne, p0 15 rfl, fr 15 rfl]
  have r15m : J' 15 m = J1 16 (zbk J1 m) := by
    rw [← hJ]
    show (if m = m then J1 16 (zbk J1 m) else J3 15 m) = _
    rw [if_pos rfl]
  have sA : zSU J' J m := by
    refine zSU.tr ?_ (s3.tr (s2.tr s1))
    refine ⟨fun t x y => ⟨by rw [r7, p0 7 rfl, fr 7 rfl], by rw [r8, p0 8 rfl, fr 8 rfl], by rw [r10], by rw [r11], by rw [r12], by rw [r13], by rw [r14, p0 14 rfl], by rw [r15 t (by omega), p0 15 rfl, fr 15 rfl]⟩, fun k x y => by rw [r9, p0 9 rfl, fr 9 rfl]⟩
  have hlt : ∀ i, 0 ≤ i → i < J1 8 m → 0 ≤ J1 9 (m * 3 + i) ∧ J1 9 (m * 3 + i) < m := fun i x y => hargs i x (by rw [← g8]; exact y)
  have ez : zs3 J' m = zs3 J2 m := zs3_su (by rw [r8, fr 8 rfl]) (fun i x y => by
    rw [fr 8 rfl] at y
    have := hlt i x y
    rw [r9, fr 9 rfl, r10, (pk _ (by omega)).1])
  have ew3 : zw3 J' m = zw3 J2 m := zw3_su (by rw [r8, fr 8 rfl]) (fun i x y => by
    rw [fr 8 rfl] at y
    have := hlt i x y
    rw [r9, fr 9 rfl, r11, (pk _ (by omega)).2.1])
  have ev : zv3 J' m = zv3 J2 m := zv3_su (by rw [r7, fr 7 rfl]) (by rw [r8, fr 8 rfl]) (fun i x y => by
    rw [fr 8 rfl] at y
    have := hlt i x y
    rw [r9, fr 9 rfl, r13, (pk _ (by omega)).2.2.2])
  have ed2 : zd3 J2 m = dpT J h a b c := made_dp hA eA (by rw [fr 8 rfl]; exact g8) e1 e2 e3 (by rw [fr 9 rfl]; exact g0) (by rw [fr 9 rfl]; exact g1) (by rw [fr 9 rfl]; exact g2) ((fr 12 rfl).trans (f0 12 rfl))
  have ed : zd3 J' m = zd3 J2 m := by
    unfold zd3
    rw [r8, fr 8 rfl, r9, fr 9 rfl, r12]
    have k0 : 0 < J1 8 m → J3 12 (J1 9 (m * 3 + 0)) = J2 12 (J1 9 (m * 3 + 0)) := fun x => (pk _ (by have := hlt 0 (by decide) x; omega)).2.2.1
    have k1 : 1 < J1 8 m → J3 12 (J1 9 (m * 3 + 1)) = J2 12 (J1 9 (m * 3 + 1)) := fun x => (pk _ (by have := hlt 1 (by decide) x; omega)).2.2.1
    have k2 : 2 < J1 8 m → J3 12 (J1 9 (m * 3 + 2)) = J2 12 (J1 9 (m * 3 + 2)) := fun x => (pk _ (by have := hlt 2 (by decide) x; omega)).2.2.1
    by_cases x0 : J1 8 m ≤ 0
    · rw [if_pos x0, if_pos x0]
    · rw [if_neg x0, if_neg x0, k0 (by omega)]
      by_cases x1 : J1 8 m ≤ 1
      · rw [if_pos x1, if_pos x1]
      · rw [if_neg x1, if_neg x1, k1 (by omega)]
        by_cases x2 : J1 8 m ≤ 2
        · rw [if_pos x2, if_pos x2]
        · rw [if_neg x2, if_neg x2, k2 (by omega)]
  have eb : zbk J1 m = zbk J' m := (zbk_congr (by rw [r7]) (by rw [r8]) (fun i x y => by
    have := hlt i x y
    rw [r9, r14, f14 _ this.1 this.2]) (by rw [g8]; exact hA.1)).symm
  have hTU : ∀ s, 0 ≤ s → s < m → ¬ TU (J' 3) (J' 7) (fun t i => J' 9 (t * 3 + i)) s m := fun s x y z => NS s x y (by
    obtain ⟨z1, z2⟩ := z
    rw [r7] at z1 z2
    refine ⟨z1, fun j p q => ?_⟩
    have := z2 j p (by rw [r3, g7, ← eA, ← g8]; exact q)
    rw [r9] at this
    exact this)
  refine ⟨?_, sA, Or.inr (Or.inr ⟨⟨rfl, hm4, fun t x y z => NS t x y ((smT_isT C s1 hA eA g7 g8 e1 e2 e3 g0 g1 g2 x y).mpr z), hok, by rw [← ed2, ← q12]; exact hd⟩, ?_, ?_, ?_⟩)⟩
  · rw [← hJ]
    exact zOf.up rfl (zOf.up rfl (zOf.up rfl ((zOf.mono p0 (fun c hc => by simp [zbut] at hc ⊢; omega)).tr (made_w f0 fr))))
  · rw [← hJ]
    rfl
  · refine C.push (h := h) (B := zbk J1 m) hm4 r1 r3 r4 sA hh (by rw [r7]; exact g7) (by rw [r8, g8, eA]) (fun i x y => by rw [r9]; exact hargs i x (by rw [eA]; exact y)) (by rw [r10, ez]; exact q10) (by rw [r11, ew3, q11, fr 11 rfl, g11, ew]) (by rw [r12, ed]; exact q12) (by rw [ed, ← q12]; exact hd) (by rw [r13, ev]; exact q13) (by rw [r15m, f0 16 rfl]) eb ?_ (fun b x => ?_) hTU
    · rw [← hJ]
      show (if zbk J1 m = zbk J1 m then m else J3 16 (zbk J1 m)) = m
      rw [if_pos rfl]
    · rw [← hJ]
      show (if b = zbk J1 m then m else J3 16 b) = J 16 b
      rw [if_neg x, p0 16 rfl, fr 16 rfl, f0 16 rfl]
  · unfold isT
    rw [r7, r3, r9, ← eA]
    refine ⟨g7, fun x => ?_, fun x => ?_, fun x => ?_⟩
    · rw [g0, e1, if_pos x]
    · rw [g1, e2, if_pos x]
    · rw [g2, e3, if_pos x]
end
section
set_option maxHeartbeats 4000000 in
set_option maxRecDepth 100000 in
theorem c_made {l : Launch} {G : tb_G} (hl : l.stackTraces = false) (n : Nat) (J : zJ) (h : Int) (a : Int) (b : Int) (c : Int) (hr_h : -2147483648 ≤ h ∧ h < 2147483648) (hr_a : -2147483648 ≤ a ∧ a < 2147483648) (hr_b : -2147483648 ≤ b ∧ b < 2147483648) (hr_c : -2147483648 ≤ c ∧ c < 2147483648) (m : Int) (C : CT J m) (hm : J 6 12 = m) (hh : -8 ≤ h ∧ h < J 1 3) (hlt : ltA (arh (J 3) h) a b c m) : tz_Ok l G M_X9_made 2 0 0 [.ref 6, zi h, zi a, zi b, zi c] n J (zqi (fun z J' => madeP J m h a b c z J')) zN := by
  refine tz_Ok.of hl (by decide +kernel) rfl (tb_c1 rfl) (Nat.le_of_ble_eq_true rfl) ?_
  show tz_At l G M_X9_made (tb_rm 2 0 0) none (tb_ZM G 0 0 (zQ n 0 (zqi (fun z J' => madeP J m h a b c z J'))) (zX n 0 zN)) 0 0 n J 0 [some (.ref 6), some (zi h), some (zi a), some (zi b), some (zi c), none, none, none, none, none, none] []
  have ht := C.told
  have hA := arh_rg C.1.1.1 hh.2
  refine tz_aload_n (pc := 0) dX9_made_0 rfl rfl ?_
  refine tz_fI (pc := 1) (kz := 12) (v := m) dX9_made_1 fl_X9_45 i_6_12 rfl hm (fun r_1 => ?_)
  refine tz_istore (pc := 4) (L2 := [_, _, _, _, _, _, _, _, _, _, _]) dX9_made_4 (by decide) rfl ?_
  refine tz_aload_n (pc := 6) dX9_made_6 rfl rfl ?_
  refine tz_fR (pc := 7) dX9_made_7 fl_X9_49 r_6_0 ?_
  refine tz_iload_n (pc := 10) dX9_made_10 rfl rfl ?_
  refine tz_cV (pc := 11) (c_syHas hl n _ _ hr_h) vl_X9_63 dX9_made_11 o_1 rfl rfl (Nat.le_of_ble_eq_true rfl) ⟨(Nat.le_of_ble_eq_true rfl), (Nat.le_of_ble_eq_true rfl)⟩ rfl rfl (Nat.le_of_ble_eq_true rfl) (Nat.le_of_ble_eq_true rfl) (fun r9 J_11 hq9 => ?_)
  obtain ⟨z_11, rfl, hz_11, rfl, hv_11⟩ := hq9
  have he : (z_11 = 0 ∧ h < 0) ∨ (z_11 = 1 ∧ 0 ≤ h) := by rw [← hv_11]; split <;> omega
  refine tz_istore (pc := 14) (L2 := [_, _, _, _, _, _, _, _, _, _, _]) dX9_made_14 (by decide) rfl ?_
  refine tz_iload (pc := 16) dX9_made_16 rfl ?_
  have join34 : ∀ (A : Int), (-2147483648 ≤ A ∧ A < 2147483648) → (A = arh (J 3) h) → tz_At l G M_X9_made (tb_rm 2 0 0) none (tb_ZM G 0 0 (zQ n 0 (zqi (fun z J' => madeP J m h a b c z J'))) (zX n 0 zN)) 0 0 n J 34 [some (.ref 6), some (zi h), some (zi a), some (zi b), some (zi c), some (zi m), some (zi z_11), none, none, none, none] (zi A :: []) := by
    intro A hr_A
    intro hj_34
    rw [← hj_34] at hA hlt
    have hsw := C.1.2 h
    refine tz_istore (pc := 34) (L2 := [_, _, _, _, _, _, _, _, _, _, _]) dX9_made_34 (by decide) rfl ?_
    refine tz_aload_n (pc := 36) dX9_made_36 rfl rfl ?_
    refine tz_fR (pc := 37) dX9_made_37 fl_X9_11 r_6_1 ?_
    refine tz_iload (pc := 40) dX9_made_40 rfl ?_
    refine tz_iload_n (pc := 42) dX9_made_42 rfl rfl ?_
    refine tz_aS (pc := 43) (z := m) dX9_made_43 a_7 rfl (by omega) (by omega) ?_
    refine tz_aload_n (pc := 44) dX9_made_44 rfl rfl ?_
    refine tz_fR (pc := 45) dX9_made_45 fl_X9_15 r_6_2 ?_
    refine tz_iload (pc := 48) dX9_made_48 rfl ?_
    refine tz_iload (pc := 50) dX9_made_50 rfl ?_
    refine tz_aS (pc := 52) (z := m) dX9_made_52 a_8 rfl (by omega) (by omega) ?_
    refine tz_aload_n (pc := 53) dX9_made_53 rfl rfl ?_
    refine tz_fR (pc := 54) dX9_made_54 fl_X9_24 r_6_5 ?_
    refine tz_iload (pc := 57) dX9_made_57 rfl ?_
    refine tz_iload (pc := 59) dX9_made_59 rfl ?_
    have join77 : ∀ (w : Int), (-2147483648 ≤ w ∧ w < 2147483648) → (w = if h < 0 then 1 else J 4 h) → tz_At l G M_X9_made (tb_rm 2 0 0) none (tb_ZM G 0 0 (zQ n 0 (zqi (fun z J' => madeP J m h a b c z J'))) (zX n 0 zN)) 0 0 n (zup (zup J 7 m h) 8 m A) 77 [some (.ref 6), some (zi h), some (zi a), some (zi b), some (zi c), some (zi m), some (zi z_11), some (zi A), none, none, none] (zi w :: zi m :: .ref 11 :: []) := by
      intro w hr_w
      intro hj_77
      have hw : 1 ≤ w ∧ w ≤ 9 := by rw [hj_77]; split; omega; exact hsw (by omega) hh.2
      refine tz_aS (pc := 77) (z := m) dX9_made_77 a_11 rfl (by omega) (by omega) ?_
      refine tz_aload_n (pc := 78) dX9_made_78 rfl rfl ?_
      refine tz_fR (pc := 79) dX9_made_79 fl_X9_18 r_6_3 ?_
      refine tz_iload (pc := 82) dX9_made_82 rfl ?_
      refine tz_iconst (pc := 84) dX9_made_84 ?_
      refine tz_imul (pc := 85) (v := m * 3) dX9_made_85 rfl ?_
      refine tz_iload (pc := 86) dX9_made_86 rfl ?_
      have join96 : ∀ (v1 : Int), (-2147483648 ≤ v1 ∧ v1 < 2147483648) → (v1 = if 0 < A then a else -1) → tz_At l G M_X9_made (tb_rm 2 0 0) none (tb_ZM G 0 0 (zQ n 0 (zqi (fun z J' => madeP J m h a b c z J'))) (zX n 0 zN)) 0 0 n (zup (zup (zup J 7 m h) 8 m A) 11 m w) 96 [some (.ref 6), some (zi h), some (zi a), some (zi b), some (zi c), some (zi m), some (zi z_11), some (zi A), none, none, none] (zi v1 :: zi (m * 3) :: .ref 9 :: []) := by
        intro v1 hr_v1
        intro hj_96
        refine tz_aS (pc := 96) (z := (m * 3)) dX9_made_96 a_9 rfl (by omega) (by omega) ?_
        refine tz_aload_n (pc := 97) dX9_made_97 rfl rfl ?_
        refine tz_fR (pc := 98) dX9_made_98 fl_X9_18 r_6_3 ?_
        refine tz_iload (pc := 101) dX9_made_101 rfl ?_
        refine tz_iconst (pc := 103) dX9_made_103 ?_
        refine tz_imul (pc := 104) (v := m * 3) dX9_made_104 rfl ?_
        refine tz_iconst (pc := 105) dX9_made_105 ?_
        refine tz_iadd (pc := 106) (v := (m * 3) + 1) dX9_made_106 rfl ?_
        refine tz_iload (pc := 107) dX9_made_107 rfl ?_
        refine tz_iconst (pc := 109) dX9_made_109 ?_
        have join118 : ∀ (v2 : Int), (-2147483648 ≤ v2 ∧ v2 < 2147483648) → (v2 = if 1 < A then b else -1) → tz_At l G M_X9_made (tb_rm 2 0 0) none (tb_ZM G 0 0 (zQ n 0 (zqi (fun z J' => madeP J m h a b c z J'))) (zX n 0 zN)) 0 0 n (zup (zup (zup (zup J 7 m h) 8 m A) 11 m w) 9 (m * 3) v1) 118 [some (.ref 6), some (zi h), some (zi a), some (zi b), some (zi c), some (zi m), some (zi z_11), some (zi A), none, none, none] (zi v2 :: zi ((m * 3) + 1) :: .ref 9 :: []) := by
          intro v2 hr_v2
          intro hj_118
          refine tz_aS (pc := 118) (z := ((m * 3) + 1)) dX9_made_118 a_9 rfl (by omega) (by omega) ?_
          refine tz_aload_n (pc := 119) dX9_made_119 rfl rfl ?_
          refine tz_fR (pc := 120) dX9_made_120 fl_X9_18 r_6_3 ?_
          refine tz_iload (pc := 123) dX9_made_123 rfl ?_
          refine tz_iconst (pc := 125) dX9_made_125 ?_
          refine tz_imul (pc := 126) (v := m * 3) dX9_made_126 rfl ?_
          refine tz_iconst (pc := 127) dX9_made_127 ?_
          refine tz_iadd (pc := 128) (v := (m * 3) + 2) dX9_made_128 rfl ?_
          refine tz_iload (pc := 129) dX9_made_129 rfl ?_
          refine tz_iconst (pc := 131) dX9_made_131 ?_
          have join141 : ∀ (v3 : Int), (-2147483648 ≤ v3 ∧ v3 < 2147483648) → (v3 = if 2 < A then c else -1) → tz_At l G M_X9_made (tb_rm 2 0 0) none (tb_ZM G 0 0 (zQ n 0 (zqi (fun z J' => madeP J m h a b c z J'))) (zX n 0 zN)) 0 0 n (zup (zup (zup (zup (zup J 7 m h) 8 m A) 11 m w) 9 (m * 3) v1) 9 ((m * 3) + 1) v2) 141 [some (.ref 6), some (zi h), some (zi a), some (zi b), some (zi c), some (zi m), some (zi z_11), some (zi A), none, none, none] (zi v3 :: zi ((m * 3) + 2) :: .ref 9 :: []) := by
            intro v3 hr_v3
            intro hj_141
            refine tz_aS (pc := 141) (z := ((m * 3) + 2)) dX9_made_141 a_9 rfl (by omega) (by omega) ?_
            have FE := made_e (J := J) (m := m) (h := h) (A := A) (w := w) (v1 := v1) (v2 := v2) (v3 := v3)
            generalize (zup (zup (zup (zup (zup (zup J 7 m h) 8 m A) 11 m w) 9 (m * 3) v1) 9 ((m * 3) + 1) v2) 9 ((m * 3) + 2) v3) = J1 at FE ⊢
            obtain ⟨f0, s1, g7, g8, g11, g90, g91, g92⟩ := FE
            have C1 : CT J1 m := C.su (f0 1 rfl) (f0 3 rfl) (f0 4 rfl) (f0 16 rfl) s1
            refine tz_iload (pc := 142) dX9_made_142 rfl ?_
            have join175 : (okA A a b c) → tz_At l G M_X9_made (tb_rm 2 0 0) none (tb_ZM G 0 0 (zQ n 0 (zqi (fun z J' => madeP J m h a b c z J'))) (zX n 0 zN)) 0 0 n J1 175 [some (.ref 6), some (zi h), some (zi a), some (zi b), some (zi c), some (zi m), some (zi z_11), some (zi A), none, none, none] ([]) := by
              intro hj_175
              have hargs := made_a (X := fun i => J1 9 (m * 3 + i)) hA hj_96 hj_118 hj_141 hj_175 hlt g90 g91 g92
              refine tz_aload_n (pc := 175) dX9_made_175 rfl rfl ?_
              refine tz_iload (pc := 176) dX9_made_176 rfl ?_
              refine tz_cV (pc := 178) (c_bucket hl n _ _ (by omega) (by omega) (by rw [g8]; exact hA) (by rw [g8]; exact fun i p q => by have := hargs i p q; omega)) vl_X9_71 dX9_made_178 o_6 rfl rfl (Nat.le_of_ble_eq_true rfl) ⟨(Nat.le_of_ble_eq_true rfl), (Nat.le_of_ble_eq_true rfl)⟩ rfl rfl (Nat.le_of_ble_eq_true rfl) (Nat.le_of_ble_eq_true rfl) (fun r9 J_178 hq9 => ?_)
              obtain ⟨z_178, rfl, hz_178, rfl, rfl⟩ := hq9
              refine tz_istore (pc := 181) (L2 := [_, _, _, _, _, _, _, _, _, _, _]) dX9_made_181 (by decide) rfl ?_
              have hB := zbk_rg J1 m
              refine tz_aload_n (pc := 183) dX9_made_183 rfl rfl ?_
              refine tz_fR (pc := 184) dX9_made_184 fl_X9_33 r_6_8 ?_
              refine tz_iload (pc := 187) dX9_made_187 rfl ?_
              refine tz_iload (pc := 189) dX9_made_189 rfl ?_
              refine tz_aS (pc := 191) (z := m) dX9_made_191 a_14 rfl (by omega) (by omega) ?_
              refine tz_aload_n (pc := 192) dX9_made_192 rfl rfl ?_
              refine tz_fR (pc := 193) dX9_made_193 fl_X9_39 r_6_10 ?_
              refine tz_iload (pc := 196) dX9_made_196 rfl ?_
              refine tz_aL (pc := 198) (z := (zbk J1 m)) (v := (J1 16 (zbk J1 m))) dX9_made_198 a_16 rfl (by omega) rfl (fun r_198 => ?_)
              refine tz_istore (pc := 199) (L2 := [_, _, _, _, _, _, _, _, _, _, _]) dX9_made_199 (by decide) rfl ?_
              have hcb := C1.2.2 (zbk J1 m) (by omega) (by omega)
              unfold cB1 at hcb
              refine tz_iconst (pc := 201) dX9_made_201 ?_
              refine tz_istore (pc := 202) (L2 := [_, _, _, _, _, _, _, _, _, _, _]) dX9_made_202 (by decide) rfl ?_
              have loop204 : ∀ (f9 : Nat) (k : Int) (s : Int) (J2 : zJ), ((400 - k).toNat) < f9 → (0 ≤ k ∧ k ≤ 400) → ((-1 ≤ s ∧ s < m) ∧ s ≤ m - 1 - k) → (s = -1 ∨ zbk J1 s = zbk J1 m) → (zOf (zbut [14]) J2 J1) → (∀ t, 0 ≤ t → t < m → J2 14 t = J1 14 t) → (∀ t, 0 ≤ t → t < m → s < t → zbk J1 t = zbk J1 m → ¬ smT J1 t m) → tz_At l G M_X9_made (tb_rm 2 0 0) none (tb_ZM G 0 0 (zQ n 0 (zqi (fun z J' => madeP J m h a b c z J'))) (zX n 0 zN)) 0 0 n J2 204 [some (.ref 6), some (zi h), some (zi a), some (zi b), some (zi c), some (zi m), some (zi z_11), some (zi A), some (zi (zbk J1 m)), some (zi s), some (zi k)] [] := by
                intro f9
                induction f9 with
                | zero => intro k s J2 hm9; exact absurd hm9 (Nat.not_lt_zero _)
                | succ f9 ih204 =>
                  intro k s J2 hm204 hk hs hsb fr f14 NSs
                  have e7 : J2 7 = J1 7 := fr 7 rfl
                  have e8 : J2 8 = J1 8 := fr 8 rfl
                  have e9 : J2 9 = J1 9 := fr 9 rfl
                  have e15 : J2 15 = J1 15 := fr 15 rfl
                  refine tz_iload (pc := 204) dX9_made_204 rfl ?_
                  refine tz_sipush (pc := 206) dX9_made_206 (by decide) ?_
                  refine tz_icmp_ge (pc := 209) (tgt := 272) dX9_made_209 (by decide) (by omega) (by decide) (fun h_209 => ?_) (fun h_209 => ?_)
                  · refine tz_aload_n (pc := 272) dX9_made_272 rfl rfl ?_
                    refine tz_iload (pc := 273) dX9_made_273 rfl ?_
                    have e10 : J2 10 = J1 10 := fr 10 rfl
                    have e11 : J2 11 = J1 11 := fr 11 rfl
                    have e12 : J2 12 = J1 12 := fr 12 rfl
                    have hs9 : s = -1 := by omega
                    have NS : ∀ t, 0 ≤ t → t < m → ¬ smT J1 t m := fun t p q x => NSs t p q (by omega) (smT_bk C1 p q (by rw [g8, g7, f0 3 rfl, hj_34]) x) x
                    refine tz_cV (pc := 275) (c_measure hl n _ _ (by omega) (by omega) (by rw [e11, g11]; omega) (by rw [e8, e9, e10, e11, e12, g8]; exact fun i p q => by have x := hargs i p q; have y := C1.nums x.1 x.2; exact ⟨x, by omega, by omega, by omega⟩) (by rw [e8, g8]; exact hA)) vl_X9_82 dX9_made_275 o_6 rfl rfl (Nat.le_of_ble_eq_true rfl) ⟨(Nat.le_of_ble_eq_true rfl), (Nat.le_of_ble_eq_true rfl)⟩ rfl rfl (Nat.le_of_ble_eq_true rfl) (Nat.le_of_ble_eq_true rfl) (fun r9 J_275 hq9 => ?_)
                    obtain ⟨rfl, p0, pk, q10, q11, q12, q13⟩ := hq9
                    refine tz_iload (pc := 278) dX9_made_278 rfl ?_
                    refine tz_sipush (pc := 280) dX9_made_280 (by decide) ?_
                    refine tz_icmp_ge (pc := 283) (tgt := 298) dX9_made_283 (by decide) (by omega) (by decide) (fun h_283 => ?_) (fun h_283 => ?_)
                    · refine tz_bipush (pc := 298) dX9_made_298 (by decide) ?_
                      exact tz_iret (pc := 300) (z := (-3)) dX9_made_300 rfl (Nat.le_of_ble_eq_true rfl) (Nat.le_of_ble_eq_true rfl) ⟨Nat.le_refl _, Nat.le_add_right _ _⟩ ⟨_, rfl, (by decide), made_full C hm s1 f0 C1 fr f14 p0 pk hA hj_34 g7 g8 hj_96 hj_118 hj_141 g90 g91 g92 NS q12 (by omega)⟩
                    · refine tz_aload_n (pc := 286) dX9_made_286 rfl rfl ?_
                      refine tz_fR (pc := 287) dX9_made_287 fl_X9_27 r_6_6 ?_
                      refine tz_iload (pc := 290) dX9_made_290 rfl ?_
                      refine tz_aL (pc := 292) (z := m) (v := (J_275 12 m)) dX9_made_292 a_12 rfl (by omega) rfl (fun r_292 => ?_)
                      refine tz_bipush (pc := 293) dX9_made_293 (by decide) ?_
                      refine tz_icmp_le (pc := 295) (tgt := 301) dX9_made_295 (by decide) (by omega) (by decide) (fun h_295 => ?_) (fun h_295 => ?_)
                      · refine tz_aload_n (pc := 301) dX9_made_301 rfl rfl ?_
                        refine tz_fR (pc := 302) dX9_made_302 fl_X9_36 r_6_9 ?_
                        refine tz_iload (pc := 305) dX9_made_305 rfl ?_
                        refine tz_aload_n (pc := 307) dX9_made_307 rfl rfl ?_
                        refine tz_fR (pc := 308) dX9_made_308 fl_X9_39 r_6_10 ?_
                        refine tz_iload (pc := 311) dX9_made_311 rfl ?_
                        refine tz_aL (pc := 313) (z := (zbk J1 m)) (v := (J1 16 (zbk J1 m))) dX9_made_313 a_16 rfl (by omega) (Eq.trans (congrFun (p0 16 rfl) (zbk J1 m)) (Eq.trans (congrFun (fr 16 rfl) (zbk J1 m)) rfl)) (fun r_313 => ?_)
                        refine tz_aS (pc := 314) (z := m) dX9_made_314 a_15 rfl (by omega) (by omega) ?_
                        refine tz_aload_n (pc := 315) dX9_made_315 rfl rfl ?_
                        refine tz_fR (pc := 316) dX9_made_316 fl_X9_39 r_6_10 ?_
                        refine tz_iload (pc := 319) dX9_made_319 rfl ?_
                        refine tz_iload (pc := 321) dX9_made_321 rfl ?_
                        refine tz_aS (pc := 323) (z := (zbk J1 m)) dX9_made_323 a_16 rfl (by omega) (by omega) ?_
                        refine tz_aload_n (pc := 324) dX9_made_324 rfl rfl ?_
                        refine tz_dup (pc := 325) dX9_made_325 rfl ?_
                        refine tz_fI (pc := 326) (kz := 12) (v := m) dX9_made_326 fl_X9_45 i_6_12 rfl (Eq.trans (congrFun (p0 6 rfl) 12) (Eq.trans (congrFun (fr 6 rfl) 12) ((congrFun (f0 6 rfl) 12).trans hm))) (fun r_326 => ?_)
                        refine tz_iconst (pc := 329) dX9_made_329 ?_
                        refine tz_iadd (pc := 330) (v := m + 1) dX9_made_330 rfl ?_
                        refine tz_pI (pc := 331) (kz := 12) dX9_made_331 fl_X9_45 i_6_12 rfl rfl (by omega) ?_
                        refine tz_iload (pc := 334) dX9_made_334 rfl ?_
                        exact tz_iret (pc := 336) (z := m) dX9_made_336 rfl (Nat.le_of_ble_eq_true rfl) (Nat.le_of_ble_eq_true rfl) ⟨Nat.le_refl _, Nat.le_add_right _ _⟩ ⟨_, rfl, (by omega), made_fin C hm hh s1 f0 C1 fr f14 p0 pk hA hj_34 g7 g8 g11 hj_77 hj_96 hj_118 hj_141 g90 g91 g92 (hj_34 ▸ hj_175) hargs NS q10 q11 q12 q13 (by omega) (by omega)⟩
                      · refine tz_bipush (pc := 298) dX9_made_298 (by decide) ?_
                        exact tz_iret (pc := 300) (z := (-3)) dX9_made_300 rfl (Nat.le_of_ble_eq_true rfl) (Nat.le_of_ble_eq_true rfl) ⟨Nat.le_refl _, Nat.le_add_right _ _⟩ ⟨_, rfl, (by decide), made_full C hm s1 f0 C1 fr f14 p0 pk hA hj_34 g7 g8 hj_96 hj_118 hj_141 g90 g91 g92 NS q12 (by omega)⟩
                  · refine tz_iload (pc := 212) dX9_made_212 rfl ?_
                    refine tz_iconst (pc := 214) dX9_made_214 ?_
                    refine tz_icmp_eq (pc := 215) (tgt := 272) dX9_made_215 (by decide) (by omega) (by decide) (fun h_215 => ?_) (fun h_215 => ?_)
                    · refine tz_aload_n (pc := 272) dX9_made_272 rfl rfl ?_
                      refine tz_iload (pc := 273) dX9_made_273 rfl ?_
                      have e10 : J2 10 = J1 10 := fr 10 rfl
                      have e11 : J2 11 = J1 11 := fr 11 rfl
                      have e12 : J2 12 = J1 12 := fr 12 rfl
                      have hs9 : s = -1 := by omega
                      have NS : ∀ t, 0 ≤ t → t < m → ¬ smT J1 t m := fun t p q x => NSs t p q (by omega) (smT_bk C1 p q (by rw [g8, g7, f0 3 rfl, hj_34]) x) x
                      refine tz_cV (pc := 275) (c_measure hl n _ _ (by omega) (by omega) (by rw [e11, g11]; omega) (by rw [e8, e9, e10, e11, e12, g8]; exact fun i p q => by have x := hargs i p q; have y := C1.nums x.1 x.2; exact ⟨x, by omega, by omega, by omega⟩) (by rw [e8, g8]; exact hA)) vl_X9_82 dX9_made_275 o_6 rfl rfl (Nat.le_of_ble_eq_true rfl) ⟨(Nat.le_of_ble_eq_true rfl), (Nat.le_of_ble_eq_true rfl)⟩ rfl rfl (Nat.le_of_ble_eq_true rfl) (Nat.le_of_ble_eq_true rfl) (fun r9 J_275 hq9 => ?_)
                      obtain ⟨rfl, p0, pk, q10, q11, q12, q13⟩ := hq9
                      refine tz_iload (pc := 278) dX9_made_278 rfl ?_
                      refine tz_sipush (pc := 280) dX9_made_280 (by decide) ?_
                      refine tz_icmp_ge (pc := 283) (tgt := 298) dX9_made_283 (by decide) (by omega) (by decide) (fun h_283 => ?_) (fun h_283 => ?_)
                      · refine tz_bipush (pc := 298) dX9_made_298 (by decide) ?_
                        exact tz_iret (pc := 300) (z := (-3)) dX9_made_300 rfl (Nat.le_of_ble_eq_true rfl) (Nat.le_of_ble_eq_true rfl) ⟨Nat.le_refl _, Nat.le_add_right _ _⟩ ⟨_, rfl, (by decide), made_full C hm s1 f0 C1 fr f14 p0 pk hA hj_34 g7 g8 hj_96 hj_118 hj_141 g90 g91 g92 NS q12 (by omega)⟩
                      · refine tz_aload_n (pc := 286) dX9_made_286 rfl rfl ?_
                        refine tz_fR (pc := 287) dX9_made_287 fl_X9_27 r_6_6 ?_
                        refine tz_iload (pc := 290) dX9_made_290 rfl ?_
                        refine tz_aL (pc := 292) (z := m) (v := (J_275 12 m)) dX9_made_292 a_12 rfl (by omega) rfl (fun r_292 => ?_)
                        refine tz_bipush (pc := 293) dX9_made_293 (by decide) ?_
                        refine tz_icmp_le (pc := 295) (tgt := 301) dX9_made_295 (by decide) (by omega) (by decide) (fun h_295 => ?_) (fun h_295 => ?_)
                        · refine tz_aload_n (pc := 301) dX9_made_301 rfl rfl ?_
                          refine tz_fR (pc := 302) dX9_made_302 fl_X9_36 r_6_9 ?_
                          refine tz_iload (pc := 305) dX9_made_305 rfl ?_
                          refine tz_aload_n (pc := 307) dX9_made_307 rfl rfl ?_
                          refine tz_fR (pc := 308) dX9_made_308 fl_X9_39 r_6_10 ?_
                          refine tz_iload (pc := 311) dX9_made_311 rfl ?_
                          refine tz_aL (pc := 313) (z := (zbk J1 m)) (v := (J1 16 (zbk J1 m))) dX9_made_313 a_16 rfl (by omega) (Eq.trans (congrFun (p0 16 rfl) (zbk J1 m)) (Eq.trans (congrFun (fr 16 rfl) (zbk J1 m)) rfl)) (fun r_313 => ?_)
                          refine tz_aS (pc := 314) (z := m) dX9_made_314 a_15 rfl (by omega) (by omega) ?_
                          refine tz_aload_n (pc := 315) dX9_made_315 rfl rfl ?_
                          refine tz_fR (pc := 316) dX9_made_316 fl_X9_39 r_6_10 ?_
                          refine tz_iload (pc := 319) dX9_made_319 rfl ?_
                          refine tz_iload (pc := 321) dX9_made_321 rfl ?_
                          refine tz_aS (pc := 323) (z := (zbk J1 m)) dX9_made_323 a_16 rfl (by omega) (by omega) ?_
                          refine tz_aload_n (pc := 324) dX9_made_324 rfl rfl ?_
                          refine tz_dup (pc := 325) dX9_made_325 rfl ?_
                          refine tz_fI (pc := 326) (kz := 12) (v := m) dX9_made_326 fl_X9_45 i_6_12 rfl (Eq.trans (congrFun (p0 6 rfl) 12) (Eq.trans (congrFun (fr 6 rfl) 12) ((congrFun (f0 6 rfl) 12).trans hm))) (fun r_326 => ?_)
                          refine tz_iconst (pc := 329) dX9_made_329 ?_
                          refine tz_iadd (pc := 330) (v := m + 1) dX9_made_330 rfl ?_
                          refine tz_pI (pc := 331) (kz := 12) dX9_made_331 fl_X9_45 i_6_12 rfl rfl (by omega) ?_
                          refine tz_iload (pc := 334) dX9_made_334 rfl ?_
                          exact tz_iret (pc := 336) (z := m) dX9_made_336 rfl (Nat.le_of_ble_eq_true rfl) (Nat.le_of_ble_eq_true rfl) ⟨Nat.le_refl _, Nat.le_add_right _ _⟩ ⟨_, rfl, (by omega), made_fin C hm hh s1 f0 C1 fr f14 p0 pk hA hj_34 g7 g8 g11 hj_77 hj_96 hj_118 hj_141 g90 g91 g92 (hj_34 ▸ hj_175) hargs NS q10 q11 q12 q13 (by omega) (by omega)⟩
                        · refine tz_bipush (pc := 298) dX9_made_298 (by decide) ?_
                          exact tz_iret (pc := 300) (z := (-3)) dX9_made_300 rfl (Nat.le_of_ble_eq_true rfl) (Nat.le_of_ble_eq_true rfl) ⟨Nat.le_refl _, Nat.le_add_right _ _⟩ ⟨_, rfl, (by decide), made_full C hm s1 f0 C1 fr f14 p0 pk hA hj_34 g7 g8 hj_96 hj_118 hj_141 g90 g91 g92 NS q12 (by omega)⟩
                    · refine tz_aload_n (pc := 218) dX9_made_218 rfl rfl ?_
                      refine tz_iload (pc := 219) dX9_made_219 rfl ?_
                      refine tz_iload (pc := 221) dX9_made_221 rfl ?_
                      refine tz_cV (pc := 223) (c_same hl n _ _ _ (by omega) (by omega) (by omega) (by omega) (by rw [e8, g8]; exact hA)) vl_X9_75 dX9_made_223 o_6 rfl rfl (Nat.le_of_ble_eq_true rfl) ⟨(Nat.le_of_ble_eq_true rfl), (Nat.le_of_ble_eq_true rfl)⟩ rfl rfl (Nat.le_of_ble_eq_true rfl) (Nat.le_of_ble_eq_true rfl) (fun r9 J_223 hq9 => ?_)
                      obtain ⟨z_223, rfl, hz_223, rfl, hq_223⟩ := hq9
                      rw [e7, e8, e9] at hq_223
                      refine tz_if_eq (pc := 226) (tgt := 232) dX9_made_226 (by decide) (by omega) (fun h_226 => ?_) (fun h_226 => ?_)
                      · refine tz_aload_n (pc := 232) dX9_made_232 rfl rfl ?_
                        refine tz_iload (pc := 233) dX9_made_233 rfl ?_
                        refine tz_iload (pc := 235) dX9_made_235 rfl ?_
                        refine tz_cV (pc := 237) (c_shape hl n _ _ _ (by omega) (by omega) (by omega) (by omega) (by rw [e8, g8]; exact hA) (by rw [e7, e8, g7, g8, hj_34]; exact fun x => by unfold arh; rw [if_pos x]) (by rw [e8, e9, g8]; exact fun i p q => by have := hargs i p q; omega) (by rw [e7, e8, e9, g8]; exact fun x i p q => by have x2 : i < J1 8 s := (by rw [(C1.2.1 s (by omega) (by omega)).1.1, x, g7, f0 3 rfl, ← hj_34]; exact q); have := C1.arg (by omega) (by omega) p x2; omega)) vl_X9_79 dX9_made_237 o_6 rfl rfl (Nat.le_of_ble_eq_true rfl) ⟨(Nat.le_of_ble_eq_true rfl), (Nat.le_of_ble_eq_true rfl)⟩ rfl rfl (Nat.le_of_ble_eq_true rfl) (Nat.le_of_ble_eq_true rfl) (fun r9 J_237 hq9 => ?_)
                        obtain ⟨z_237, rfl, hz_237, rfl, hsh_237, -⟩ := hq9
                        refine tz_if_eq (pc := 240) (tgt := 257) dX9_made_240 (by decide) (by omega) (fun h_240 => ?_) (fun h_240 => ?_)
                        · obtain ⟨hc1, hc2⟩ := (C1.2.1 s (by omega) (by omega)).2
                          refine tz_aload_n (pc := 257) dX9_made_257 rfl rfl ?_
                          refine tz_fR (pc := 258) dX9_made_258 fl_X9_36 r_6_9 ?_
                          refine tz_iload (pc := 261) dX9_made_261 rfl ?_
                          refine tz_aL (pc := 263) (z := s) (v := (J1 15 s)) dX9_made_263 a_15 rfl (by omega) (Eq.trans (congrFun (fr 15 rfl) s) rfl) (fun r_263 => ?_)
                          refine tz_istore (pc := 264) (L2 := [_, _, _, _, _, _, _, _, _, _, _]) dX9_made_264 (by decide) rfl ?_
                          refine tz_iinc (pc := 266) (z := k + 1) (L2 := [_, _, _, _, _, _, _, _, _, _, _]) dX9_made_266 rfl (by omega) rfl ?_
                          refine tz_goto (pc := 269) (tgt := 204) dX9_made_269 (by decide) ?_
                          have hn9 : ∀ t, 0 ≤ t → t < m → J1 15 s < t → zbk J1 t = zbk J1 m → ¬ smT J1 t m := fun t p q r x => by
                            by_cases y1 : s < t
                            · exact NSs t p q y1 x
                            · by_cases y2 : t = s
                              · rw [y2]
                                exact fun y3 => by have := hq_223.2.mpr y3; omega
                              · exact absurd (hc2 t p (by omega) (by rw [x]; exact (hsb.resolve_left (by omega)).symm)) (by omega)
                          exact ih204 (k + 1) _ _ (by omega) (by omega) (by rcases hc1 with g | g <;> omega) (by rcases hc1 with g | g; exact Or.inl g; exact Or.inr (g.2.trans (hsb.resolve_left (by omega)))) fr f14 hn9
                        · refine tz_aload_n (pc := 243) dX9_made_243 rfl rfl ?_
                          refine tz_fR (pc := 244) dX9_made_244 fl_X9_33 r_6_8 ?_
                          refine tz_iload (pc := 247) dX9_made_247 rfl ?_
                          refine tz_aload_n (pc := 249) dX9_made_249 rfl rfl ?_
                          refine tz_fR (pc := 250) dX9_made_250 fl_X9_33 r_6_8 ?_
                          refine tz_iload (pc := 253) dX9_made_253 rfl ?_
                          refine tz_aL (pc := 255) (z := s) (v := (J2 14 s)) dX9_made_255 a_14 rfl (by omega) rfl (fun r_255 => ?_)
                          refine tz_aS (pc := 256) (z := m) dX9_made_256 a_14 rfl (by omega) (by omega) ?_
                          obtain ⟨hc1, hc2⟩ := (C1.2.1 s (by omega) (by omega)).2
                          refine tz_aload_n (pc := 257) dX9_made_257 rfl rfl ?_
                          refine tz_fR (pc := 258) dX9_made_258 fl_X9_36 r_6_9 ?_
                          refine tz_iload (pc := 261) dX9_made_261 rfl ?_
                          refine tz_aL (pc := 263) (z := s) (v := (J1 15 s)) dX9_made_263 a_15 rfl (by omega) (Eq.trans (congrFun (fr 15 rfl) s) rfl) (fun r_263 => ?_)
                          refine tz_istore (pc := 264) (L2 := [_, _, _, _, _, _, _, _, _, _, _]) dX9_made_264 (by decide) rfl ?_
                          refine tz_iinc (pc := 266) (z := k + 1) (L2 := [_, _, _, _, _, _, _, _, _, _, _]) dX9_made_266 rfl (by omega) rfl ?_
                          refine tz_goto (pc := 269) (tgt := 204) dX9_made_269 (by decide) ?_
                          have hn9 : ∀ t, 0 ≤ t → t < m → J1 15 s < t → zbk J1 t = zbk J1 m → ¬ smT J1 t m := fun t p q r x => by
                            by_cases y1 : s < t
                            · exact NSs t p q y1 x
                            · by_cases y2 : t = s
                              · rw [y2]
                                exact fun y3 => by have := hq_223.2.mpr y3; omega
                              · exact absurd (hc2 t p (by omega) (by rw [x]; exact (hsb.resolve_left (by omega)).symm)) (by omega)
                          exact ih204 (k + 1) _ _ (by omega) (by omega) (by rcases hc1 with g | g <;> omega) (by rcases hc1 with g | g; exact Or.inl g; exact Or.inr (g.2.trans (hsb.resolve_left (by omega)))) (zOf.up rfl fr) (fun t p q => (zup_ne (by omega)).trans (f14 t p q)) hn9
                      · refine tz_iload (pc := 229) dX9_made_229 rfl ?_
                        exact tz_iret (pc := 231) (z := s) dX9_made_231 rfl (Nat.le_of_ble_eq_true rfl) (Nat.le_of_ble_eq_true rfl) ⟨Nat.le_refl _, Nat.le_add_right _ _⟩ ⟨_, rfl, (by omega), ⟨made_w f0 fr, (made_s fr f14).tr s1, Or.inr (Or.inl ⟨⟨by omega, (smT_isT C s1 hA hj_34 g7 g8 hj_96 hj_118 hj_141 g90 g91 g92 (by omega) (by omega)).mp (hq_223.2.mp (by omega)), hj_34 ▸ hj_175⟩, (congrFun (fr 6 rfl) 12).trans ((congrFun (f0 6 rfl) 12).trans hm), C1.su (fr 1 rfl) (fr 3 rfl) (fr 4 rfl) (fr 16 rfl) (made_s fr f14)⟩)⟩⟩
              exact loop204 _ 0 _ _ (Nat.lt_succ_self _) (by omega) (by rcases hcb.1 with g | g <;> omega) (by rcases hcb.1 with g | g; exact Or.inl g; exact Or.inr g.2) (zOf.up rfl zOf.rf) (fun t p q => zup_ne (by omega)) (fun t p q r x y => absurd (hcb.2 t p q x) (by omega))
            refine tz_if_le (pc := 144) (tgt := 151) dX9_made_144 (by decide) (by omega) (fun h_144 => ?_) (fun h_144 => ?_)
            · refine tz_iload (pc := 151) dX9_made_151 rfl ?_
              refine tz_iconst (pc := 153) dX9_made_153 ?_
              refine tz_icmp_le (pc := 154) (tgt := 161) dX9_made_154 (by decide) (by omega) (by decide) (fun h_154 => ?_) (fun h_154 => ?_)
              · refine tz_iload (pc := 161) dX9_made_161 rfl ?_
                refine tz_iconst (pc := 163) dX9_made_163 ?_
                refine tz_icmp_le (pc := 164) (tgt := 175) dX9_made_164 (by decide) (by omega) (by decide) (fun h_164 => ?_) (fun h_164 => ?_)
                · exact join175 (by unfold okA; omega)
                · refine tz_iload (pc := 167) dX9_made_167 rfl ?_
                  refine tz_if_ge (pc := 169) (tgt := 175) dX9_made_169 (by decide) (by omega) (fun h_169 => ?_) (fun h_169 => ?_)
                  · exact join175 (by unfold okA; omega)
                  · refine tz_bipush (pc := 172) dX9_made_172 (by decide) ?_
                    exact tz_iret (pc := 174) (z := (-3)) dX9_made_174 rfl (Nat.le_of_ble_eq_true rfl) (Nat.le_of_ble_eq_true rfl) ⟨Nat.le_refl _, Nat.le_add_right _ _⟩ ⟨_, rfl, (by decide), ⟨made_w f0 zOf.rf, s1, Or.inl ⟨⟨rfl, Or.inl (fun hq => by unfold okA at hq; rw [← hj_34] at hq; omega)⟩, (congrFun (f0 6 rfl) 12).trans hm, C1⟩⟩⟩
              · refine tz_iload_n (pc := 157) dX9_made_157 rfl rfl ?_
                refine tz_if_lt (pc := 158) (tgt := 172) dX9_made_158 (by decide) (by omega) (fun h_158 => ?_) (fun h_158 => ?_)
                · refine tz_bipush (pc := 172) dX9_made_172 (by decide) ?_
                  exact tz_iret (pc := 174) (z := (-3)) dX9_made_174 rfl (Nat.le_of_ble_eq_true rfl) (Nat.le_of_ble_eq_true rfl) ⟨Nat.le_refl _, Nat.le_add_right _ _⟩ ⟨_, rfl, (by decide), ⟨made_w f0 zOf.rf, s1, Or.inl ⟨⟨rfl, Or.inl (fun hq => by unfold okA at hq; rw [← hj_34] at hq; omega)⟩, (congrFun (f0 6 rfl) 12).trans hm, C1⟩⟩⟩
                · refine tz_iload (pc := 161) dX9_made_161 rfl ?_
                  refine tz_iconst (pc := 163) dX9_made_163 ?_
                  refine tz_icmp_le (pc := 164) (tgt := 175) dX9_made_164 (by decide) (by omega) (by decide) (fun h_164 => ?_) (fun h_164 => ?_)
                  · exact join175 (by unfold okA; omega)
                  · refine tz_iload (pc := 167) dX9_made_167 rfl ?_
                    refine tz_if_ge (pc := 169) (tgt := 175) dX9_made_169 (by decide) (by omega) (fun h_169 => ?_) (fun h_169 => ?_)
                    · exact join175 (by unfold okA; omega)
                    · refine tz_bipush (pc := 172) dX9_made_172 (by decide) ?_
                      exact tz_iret (pc := 174) (z := (-3)) dX9_made_174 rfl (Nat.le_of_ble_eq_true rfl) (Nat.le_of_ble_eq_true rfl) ⟨Nat.le_refl _, Nat.le_add_right _ _⟩ ⟨_, rfl, (by decide), ⟨made_w f0 zOf.rf, s1, Or.inl ⟨⟨rfl, Or.inl (fun hq => by unfold okA at hq; rw [← hj_34] at hq; omega)⟩, (congrFun (f0 6 rfl) 12).trans hm, C1⟩⟩⟩
            · refine tz_iload_n (pc := 147) dX9_made_147 rfl rfl ?_
              refine tz_if_lt (pc := 148) (tgt := 172) dX9_made_148 (by decide) (by omega) (fun h_148 => ?_) (fun h_148 => ?_)
              · refine tz_bipush (pc := 172) dX9_made_172 (by decide) ?_
                exact tz_iret (pc := 174) (z := (-3)) dX9_made_174 rfl (Nat.le_of_ble_eq_true rfl) (Nat.le_of_ble_eq_true rfl) ⟨Nat.le_refl _, Nat.le_add_right _ _⟩ ⟨_, rfl, (by decide), ⟨made_w f0 zOf.rf, s1, Or.inl ⟨⟨rfl, Or.inl (fun hq => by unfold okA at hq; rw [← hj_34] at hq; omega)⟩, (congrFun (f0 6 rfl) 12).trans hm, C1⟩⟩⟩
              · refine tz_iload (pc := 151) dX9_made_151 rfl ?_
                refine tz_iconst (pc := 153) dX9_made_153 ?_
                refine tz_icmp_le (pc := 154) (tgt := 161) dX9_made_154 (by decide) (by omega) (by decide) (fun h_154 => ?_) (fun h_154 => ?_)
                · refine tz_iload (pc := 161) dX9_made_161 rfl ?_
                  refine tz_iconst (pc := 163) dX9_made_163 ?_
                  refine tz_icmp_le (pc := 164) (tgt := 175) dX9_made_164 (by decide) (by omega) (by decide) (fun h_164 => ?_) (fun h_164 => ?_)
                  · exact join175 (by unfold okA; omega)
                  · refine tz_iload (pc := 167) dX9_made_167 rfl ?_
                    refine tz_if_ge (pc := 169) (tgt := 175) dX9_made_169 (by decide) (by omega) (fun h_169 => ?_) (fun h_169 => ?_)
                    · exact join175 (by unfold okA; omega)
                    · refine tz_bipush (pc := 172) dX9_made_172 (by decide) ?_
                      exact tz_iret (pc := 174) (z := (-3)) dX9_made_174 rfl (Nat.le_of_ble_eq_true rfl) (Nat.le_of_ble_eq_true rfl) ⟨Nat.le_refl _, Nat.le_add_right _ _⟩ ⟨_, rfl, (by decide), ⟨made_w f0 zOf.rf, s1, Or.inl ⟨⟨rfl, Or.inl (fun hq => by unfold okA at hq; rw [← hj_34] at hq; omega)⟩, (congrFun (f0 6 rfl) 12).trans hm, C1⟩⟩⟩
                · refine tz_iload_n (pc := 157) dX9_made_157 rfl rfl ?_
                  refine tz_if_lt (pc := 158) (tgt := 172) dX9_made_158 (by decide) (by omega) (fun h_158 => ?_) (fun h_158 => ?_)
                  · refine tz_bipush (pc := 172) dX9_made_172 (by decide) ?_
                    exact tz_iret (pc := 174) (z := (-3)) dX9_made_174 rfl (Nat.le_of_ble_eq_true rfl) (Nat.le_of_ble_eq_true rfl) ⟨Nat.le_refl _, Nat.le_add_right _ _⟩ ⟨_, rfl, (by decide), ⟨made_w f0 zOf.rf, s1, Or.inl ⟨⟨rfl, Or.inl (fun hq => by unfold okA at hq; rw [← hj_34] at hq; omega)⟩, (congrFun (f0 6 rfl) 12).trans hm, C1⟩⟩⟩
                  · refine tz_iload (pc := 161) dX9_made_161 rfl ?_
                    refine tz_iconst (pc := 163) dX9_made_163 ?_
                    refine tz_icmp_le (pc := 164) (tgt := 175) dX9_made_164 (by decide) (by omega) (by decide) (fun h_164 => ?_) (fun h_164 => ?_)
                    · exact join175 (by unfold okA; omega)
                    · refine tz_iload (pc := 167) dX9_made_167 rfl ?_
                      refine tz_if_ge (pc := 169) (tgt := 175) dX9_made_169 (by decide) (by omega) (fun h_169 => ?_) (fun h_169 => ?_)
                      · exact join175 (by unfold okA; omega)
                      · refine tz_bipush (pc := 172) dX9_made_172 (by decide) ?_
                        exact tz_iret (pc := 174) (z := (-3)) dX9_made_174 rfl (Nat.le_of_ble_eq_true rfl) (Nat.le_of_ble_eq_true rfl) ⟨Nat.le_refl _, Nat.le_add_right _ _⟩ ⟨_, rfl, (by decide), ⟨made_w f0 zOf.rf, s1, Or.inl ⟨⟨rfl, Or.inl (fun hq => by unfold okA at hq; rw [← hj_34] at hq; omega)⟩, (congrFun (f0 6 rfl) 12).trans hm, C1⟩⟩⟩
          refine tz_icmp_le (pc := 132) (tgt := 140) dX9_made_132 (by decide) (by omega) (by decide) (fun h_132 => ?_) (fun h_132 => ?_)
          · refine tz_iconst (pc := 140) dX9_made_140 ?_
            exact join141 (-1) (by decide) (by split <;> omega)
          · refine tz_iload (pc := 135) dX9_made_135 rfl ?_
            refine tz_goto (pc := 137) (tgt := 141) dX9_made_137 (by decide) ?_
            exact join141 c (by omega) (by split <;> omega)
        refine tz_icmp_le (pc := 110) (tgt := 117) dX9_made_110 (by decide) (by omega) (by decide) (fun h_110 => ?_) (fun h_110 => ?_)
        · refine tz_iconst (pc := 117) dX9_made_117 ?_
          exact join118 (-1) (by decide) (by split <;> omega)
        · refine tz_iload_n (pc := 113) dX9_made_113 rfl rfl ?_
          refine tz_goto (pc := 114) (tgt := 118) dX9_made_114 (by decide) ?_
          exact join118 b (by omega) (by split <;> omega)
      refine tz_if_le (pc := 88) (tgt := 95) dX9_made_88 (by decide) (by omega) (fun h_88 => ?_) (fun h_88 => ?_)
      · refine tz_iconst (pc := 95) dX9_made_95 ?_
        exact join96 (-1) (by decide) (by split <;> omega)
      · refine tz_iload_n (pc := 91) dX9_made_91 rfl rfl ?_
        refine tz_goto (pc := 92) (tgt := 96) dX9_made_92 (by decide) ?_
        exact join96 a (by omega) (by split <;> omega)
    refine tz_if_eq (pc := 61) (tgt := 76) dX9_made_61 (by decide) (by omega) (fun h_61 => ?_) (fun h_61 => ?_)
    · refine tz_iconst (pc := 76) dX9_made_76 ?_
      exact join77 1 (by decide) (by split <;> omega)
    · refine tz_aload_n (pc := 64) dX9_made_64 rfl rfl ?_
      refine tz_fR (pc := 65) dX9_made_65 fl_X9_49 r_6_0 ?_
      refine tz_fR (pc := 68) dX9_made_68 fl_X9_70 r_1_2 ?_
      refine tz_iload_n (pc := 71) dX9_made_71 rfl rfl ?_
      refine tz_aL (pc := 72) (z := h) (v := (J 4 h)) dX9_made_72 a_4 rfl (by omega) rfl (fun r_72 => ?_)
      refine tz_goto (pc := 73) (tgt := 77) dX9_made_73 (by decide) ?_
      exact join77 (J 4 h) (by omega) (by split <;> omega)
  refine tz_if_eq (pc := 18) (tgt := 33) dX9_made_18 (by decide) (by omega) (fun h_18 => ?_) (fun h_18 => ?_)
  · refine tz_iconst (pc := 33) dX9_made_33 ?_
    exact join34 0 (by decide) (by unfold arh; split <;> omega)
  · refine tz_aload_n (pc := 21) dX9_made_21 rfl rfl ?_
    refine tz_fR (pc := 22) dX9_made_22 fl_X9_49 r_6_0 ?_
    refine tz_fR (pc := 25) dX9_made_25 fl_X9_69 r_1_1 ?_
    refine tz_iload_n (pc := 28) dX9_made_28 rfl rfl ?_
    refine tz_aL (pc := 29) (z := h) (v := (J 3 h)) dX9_made_29 a_3 rfl (by omega) rfl (fun r_29 => ?_)
    refine tz_goto (pc := 30) (tgt := 34) dX9_made_30 (by decide) ?_
    exact join34 (J 3 h) (by omega) (by unfold arh; split <;> omega)
end
section
theorem z_not8 {v : Int} (h : 0 ≤ v ∧ v < 8) : zxor v (-1) = -1 - v := by
  have h3 : v = 0 ∨ v = 1 ∨ v = 2 ∨ v = 3 ∨ v = 4 ∨ v = 5 ∨ v = 6 ∨ v = 7 := by omega
  rcases h3 with rfl | rfl | rfl | rfl | rfl | rfl | rfl | rfl <;> decide
theorem ltA_var {J : zJ} {v m : Int} (h : 0 ≤ v) : ltA (arh (J 3) (-1 - v)) (-1) (-1) (-1) m := by
  unfold ltA arh
  rw [if_pos (by omega)]
  omega
set_option maxHeartbeats 4000000 in
set_option maxRecDepth 100000 in
theorem c_varTerm {l : Launch} {G : tb_G} (hl : l.stackTraces = false) (n : Nat) (J : zJ) (v : Int) (hr_v : -2147483648 ≤ v ∧ v < 2147483648) (m : Int) (C : CT J m) (hm : J 6 12 = m) (hv : 0 ≤ v ∧ v < 8) : tz_Ok l G M_X9_variableTerm 3 0 0 [.ref 6, zi v] n J (zqi (fun z J' => madeP J m (-1 - v) (-1) (-1) (-1) z J')) zN := by
  refine tz_Ok.of hl (by decide +kernel) rfl (tb_c1 rfl) (Nat.le_of_ble_eq_true rfl) ?_
  show tz_At l G M_X9_variableTerm (tb_rm 3 0 0) none (tb_ZM G 0 0 (zQ n 0 (zqi (fun z J' => madeP J m (-1 - v) (-1) (-1) (-1) z J'))) (zX n 0 zN)) 0 0 n J 0 [some (.ref 6), some (zi v)] []
  have ht := C.told
  refine tz_aload_n (pc := 0) dX9_variableTerm_0 rfl rfl ?_
  refine tz_iload_n (pc := 1) dX9_variableTerm_1 rfl rfl ?_
  refine tz_iconst (pc := 2) dX9_variableTerm_2 ?_
  refine tz_ixor (pc := 3) (v := -1 - v) dX9_variableTerm_3 (z_not8 hv) ?_
  refine tz_iconst (pc := 4) dX9_variableTerm_4 ?_
  refine tz_iconst (pc := 5) dX9_variableTerm_5 ?_
  refine tz_iconst (pc := 6) dX9_variableTerm_6 ?_
  refine tz_cV (pc := 7) (c_made hl n _ _ _ _ _ (by omega) (by decide) (by decide) (by decide) m C hm (by omega) (ltA_var hv.1)) vl_X9_59 dX9_variableTerm_7 o_6 rfl rfl (Nat.le_of_ble_eq_true rfl) ⟨(Nat.le_of_ble_eq_true rfl), (Nat.le_of_ble_eq_true rfl)⟩ rfl rfl (Nat.le_of_ble_eq_true rfl) (Nat.le_of_ble_eq_true rfl) (fun r9 J_7 hq9 => ?_)
  obtain ⟨z_7, rfl, hz_7, hp⟩ := hq9
  exact tz_iret (pc := 10) (z := z_7) dX9_variableTerm_10 rfl (Nat.le_of_ble_eq_true rfl) (Nat.le_of_ble_eq_true rfl) ⟨Nat.le_refl _, Nat.le_add_right _ _⟩ ⟨_, rfl, (by omega), hp⟩

set_option maxHeartbeats 4000000 in
set_option maxRecDepth 100000 in
theorem c_hasPlace {l : Launch} {G : tb_G} (hl : l.stackTraces = false) (n : Nat) (J : zJ) (t : Int) (p : Int) (hr_t : -2147483648 ≤ t ∧ t < 2147483648) (hr_p : -2147483648 ≤ p ∧ p < 2147483648)  (h0 : 0 ≤ t ∧ t < 401) : tz_Ok l G M_X9_hasPlace 0 0 0 [.ref 6, zi t, zi p] n J (zqi (fun z J' => J = J' ∧ (if 0 ≤ p ∧ p < J 10 t then 1 else 0) = z)) zN := by
  refine tz_Ok.of hl (by decide +kernel) rfl (tb_c1 rfl) (Nat.le_of_ble_eq_true rfl) ?_
  show tz_At l G M_X9_hasPlace (tb_rm 0 0 0) none (tb_ZM G 0 0 (zQ n 0 (zqi (fun z J' => J = J' ∧ (if 0 ≤ p ∧ p < J 10 t then 1 else 0) = z))) (zX n 0 zN)) 0 0 n J 0 [some (.ref 6), some (zi t), some (zi p)] []
  refine tz_iload_n (pc := 0) dX9_hasPlace_0 rfl rfl ?_
  refine tz_if_lt (pc := 1) (tgt := 18) dX9_hasPlace_1 (by decide) (by omega) (fun h_1 => ?_) (fun h_1 => ?_)
  · refine tz_iconst (pc := 18) dX9_hasPlace_18 ?_
    exact tz_zret (pc := 19) (z := 0) dX9_hasPlace_19 rfl (Or.inl rfl) (Nat.le_of_ble_eq_true rfl) (Nat.le_of_ble_eq_true rfl) ⟨Nat.le_refl _, Nat.le_add_right _ _⟩ ⟨_, rfl, (by decide), ⟨rfl, by split <;> omega⟩⟩
  · refine tz_iload_n (pc := 4) dX9_hasPlace_4 rfl rfl ?_
    refine tz_aload_n (pc := 5) dX9_hasPlace_5 rfl rfl ?_
    refine tz_fR (pc := 6) dX9_hasPlace_6 fl_X9_21 r_6_4 ?_
    refine tz_iload_n (pc := 9) dX9_hasPlace_9 rfl rfl ?_
    refine tz_aL (pc := 10) (z := t) (v := (J 10 t)) dX9_hasPlace_10 a_10 rfl (by omega) rfl (fun r_10 => ?_)
    refine tz_icmp_ge (pc := 11) (tgt := 18) dX9_hasPlace_11 (by decide) (by omega) (by omega) (fun h_11 => ?_) (fun h_11 => ?_)
    · refine tz_iconst (pc := 18) dX9_hasPlace_18 ?_
      exact tz_zret (pc := 19) (z := 0) dX9_hasPlace_19 rfl (Or.inl rfl) (Nat.le_of_ble_eq_true rfl) (Nat.le_of_ble_eq_true rfl) ⟨Nat.le_refl _, Nat.le_add_right _ _⟩ ⟨_, rfl, (by decide), ⟨rfl, by split <;> omega⟩⟩
    · refine tz_iconst (pc := 14) dX9_hasPlace_14 ?_
      refine tz_goto (pc := 15) (tgt := 19) dX9_hasPlace_15 (by decide) ?_
      exact tz_zret (pc := 19) (z := 1) dX9_hasPlace_19 rfl (Or.inr rfl) (Nat.le_of_ble_eq_true rfl) (Nat.le_of_ble_eq_true rfl) ⟨Nat.le_refl _, Nat.le_add_right _ _⟩ ⟨_, rfl, (by decide), ⟨rfl, by split <;> omega⟩⟩

/-! cutTo: the latest term goes -/
theorem CT.pop {J : zJ} {t : Int} (C : CT J (t + 1)) (h0 : 0 ≤ t) : CT (zup (zup J 16 (zbk J t) (J 15 t)) 6 12 t) t := by
  generalize hJ : zup (zup J 16 (zbk J t) (J 15 t)) 6 12 t = J'
  have hs : zSU J' J (t + 1) := by rw [← hJ]; exact ⟨fun _ _ _ => ⟨rfl, rfl, rfl, rfl, rfl, rfl, rfl, rfl⟩, fun _ _ _ => rfl⟩
  have r1 : J' 1 = J 1 := by rw [← hJ]; rfl
  have r3 : J' 3 = J 3 := by rw [← hJ]; rfl
  have r4 : J' 4 = J 4 := by rw [← hJ]; rfl
  have rB : J' 16 (zbk J t) = J 15 t := by
    rw [← hJ]
    show (if zbk J t = zbk J t then J 15 t else J 16 (zbk J t)) = _
    rw [if_pos rfl]
  have rN : ∀ b, ¬ b = zbk J t → J' 16 b = J 16 b := fun b h => by
    rw [← hJ]
    show (if b = zbk J t then J 15 t else J 16 b) = _
    rw [if_neg h]
  obtain ⟨c1, c2⟩ := (C.2.1 t h0 (by omega)).2
  have hk : ∀ s, 0 ≤ s → s < t + 1 → zbk J' s = zbk J s := fun s a b => zbk_su C hs a b
  refine ⟨⟨TT.cut (cTT_su C r1 r3 hs) h0 (by omega), by unfold cSW; rw [r1, r4]; exact C.1.2⟩, fun s a b => ⟨cR1_su C r3 r4 hs a (by omega), cC1_su C hs a (by omega)⟩, fun b x y => ?_⟩
  by_cases e : b = zbk J t
  · subst e
    rw [cB1, rB]
    refine ⟨?_, fun s p q r => ?_⟩
    · rcases c1 with g | ⟨g1, g2⟩
      · exact Or.inl g
      · exact Or.inr ⟨g1, by rw [hk _ g1.1 (by omega)]; exact g2⟩
    · rw [hk s p (by omega)] at r
      exact c2 s p q r
  · obtain ⟨p, q⟩ := C.2.2 b x y
    rw [cB1, rN b e]
    refine ⟨?_, fun s u v w => ?_⟩
    · rcases p with p | ⟨p1, p2⟩
      · exact Or.inl p
      · have : ¬ J 16 b = t := fun h => e (by rw [← p2, h])
        exact Or.inr ⟨by omega, by rw [hk _ p1.1 p1.2]; exact p2⟩
    · rw [hk s u (by omega)] at w
      exact q s u (by omega) w
set_option maxHeartbeats 4000000 in
set_option maxRecDepth 100000 in
theorem c_cutTo {l : Launch} {G : tb_G} (hl : l.stackTraces = false) (n : Nat) (J : zJ) (x : Int) (hr_x : -2147483648 ≤ x ∧ x < 2147483648) (m : Int) (C : CT J m) (hm : J 6 12 = m) (hx : 0 ≤ x ∧ x ≤ m) : tz_Ok l G M_X9_cutTo 2 0 0 [.ref 6, zi x] n J (zqv (fun J' => zOf (zbut [6, 16]) J' J ∧ J' 6 12 = x ∧ CT J' x)) zN := by
  refine tz_Ok.of hl (by decide +kernel) rfl (tb_c1 rfl) (Nat.le_of_ble_eq_true rfl) ?_
  show tz_At l G M_X9_cutTo (tb_rm 2 0 0) none (tb_ZM G 0 0 (zQ n 0 (zqv (fun J' => zOf (zbut [6, 16]) J' J ∧ J' 6 12 = x ∧ CT J' x))) (zX n 0 zN)) 0 0 n J 0 [some (.ref 6), some (zi x), none] []
  have ht := C.told
  refine tz_aload_n (pc := 0) dX9_cutTo_0 rfl rfl ?_
  refine tz_fI (pc := 1) (kz := 12) (v := m) dX9_cutTo_1 fl_X9_45 i_6_12 rfl hm (fun r_1 => ?_)
  refine tz_iconst (pc := 4) dX9_cutTo_4 ?_
  refine tz_isub (pc := 5) (v := m - 1) dX9_cutTo_5 rfl ?_
  refine tz_istore_n (pc := 6) (L2 := [_, _, _]) dX9_cutTo_6 rfl (by decide) rfl ?_
  have loop7 : ∀ (f9 : Nat) (t : Int) (J1 : zJ), ((t + 1).toNat) < f9 → (x - 1 ≤ t ∧ t < m) → (zOf (zbut [6, 16]) J1 J) → (J1 6 12 = t + 1) → (CT J1 (t + 1)) → tz_At l G M_X9_cutTo (tb_rm 2 0 0) none (tb_ZM G 0 0 (zQ n 0 (zqv (fun J' => zOf (zbut [6, 16]) J' J ∧ J' 6 12 = x ∧ CT J' x))) (zX n 0 zN)) 0 0 n J1 7 [some (.ref 6), some (zi x), some (zi t)] [] := by
    intro f9
    induction f9 with
    | zero => intro t J1 hm9; exact absurd hm9 (Nat.not_lt_zero _)
    | succ f9 ih7 =>
      intro t J1 hm7 hi fr hm1 C1
      refine tz_iload_n (pc := 7) dX9_cutTo_7 rfl rfl ?_
      refine tz_iload_n (pc := 8) dX9_cutTo_8 rfl rfl ?_
      refine tz_icmp_lt (pc := 9) (tgt := 43) dX9_cutTo_9 (by decide) (by omega) (by omega) (fun h_9 => ?_) (fun h_9 => ?_)
      · exact tz_vret (pc := 43) dX9_cutTo_43 rfl (Nat.le_of_ble_eq_true rfl) (Nat.le_of_ble_eq_true rfl) ⟨Nat.le_refl _, Nat.le_add_right _ _⟩ ⟨rfl, ⟨fr, by omega, by rw [show x = t + 1 by omega]; exact C1⟩⟩
      · refine tz_iload_n (pc := 12) dX9_cutTo_12 rfl rfl ?_
        refine tz_if_ltF (pc := 13) (tgt := 43) (by omega) dX9_cutTo_13 (by decide) (by omega) ?_
        have hB := zbk_rg J1 t
        have har := C1.ar (t := t) (by omega) (by omega)
        refine tz_aload_n (pc := 16) dX9_cutTo_16 rfl rfl ?_
        refine tz_fR (pc := 17) dX9_cutTo_17 fl_X9_39 r_6_10 ?_
        refine tz_aload_n (pc := 20) dX9_cutTo_20 rfl rfl ?_
        refine tz_iload_n (pc := 21) dX9_cutTo_21 rfl rfl ?_
        refine tz_cV (pc := 22) (c_bucket hl n _ _ (by omega) (by omega) har.1 (fun i p q => by have := C1.arg (by omega) (by omega) p q; omega)) vl_X9_71 dX9_cutTo_22 o_6 rfl rfl (Nat.le_of_ble_eq_true rfl) ⟨(Nat.le_of_ble_eq_true rfl), (Nat.le_of_ble_eq_true rfl)⟩ rfl rfl (Nat.le_of_ble_eq_true rfl) (Nat.le_of_ble_eq_true rfl) (fun r9 J_22 hq9 => ?_)
        obtain ⟨z_22, rfl, hz_22, rfl, rfl⟩ := hq9
        refine tz_aload_n (pc := 25) dX9_cutTo_25 rfl rfl ?_
        refine tz_fR (pc := 26) dX9_cutTo_26 fl_X9_36 r_6_9 ?_
        refine tz_iload_n (pc := 29) dX9_cutTo_29 rfl rfl ?_
        refine tz_aL (pc := 30) (z := t) (v := (J1 15 t)) dX9_cutTo_30 a_15 rfl (by omega) rfl (fun r_30 => ?_)
        refine tz_aS (pc := 31) (z := (zbk J1 t)) dX9_cutTo_31 a_16 rfl (by omega) (by omega) ?_
        refine tz_aload_n (pc := 32) dX9_cutTo_32 rfl rfl ?_
        refine tz_iload_n (pc := 33) dX9_cutTo_33 rfl rfl ?_
        refine tz_pI (pc := 34) (kz := 12) dX9_cutTo_34 fl_X9_45 i_6_12 rfl rfl (by omega) ?_
        refine tz_iinc (pc := 37) (z := t - 1) (L2 := [_, _, _]) dX9_cutTo_37 rfl (by omega) rfl ?_
        refine tz_goto (pc := 40) (tgt := 7) dX9_cutTo_40 (by decide) ?_
        exact ih7 (t - 1) _ (by omega) (by omega) (zOf.up rfl (zOf.up rfl fr)) (show t = t - 1 + 1 by omega) (by rw [show t - 1 + 1 = t by omega]; exact C1.pop (by omega))
  exact loop7 _ _ _ (Nat.lt_succ_self _) (by omega) zOf.rf (by omega) (by rw [show m - 1 + 1 = m by omega]; exact C)

/-- where an argument's places begin -/
def zfr (J : zJ) (t : Int) : Nat → Int
  | 0 => 1
  | i + 1 => zfr J t i + J 10 (J 9 (t * 3 + i))
theorem zfr_end {J : zJ} {m t : Int} (C : CT J m) (h0 : 0 ≤ t) (h1 : t < m) : zfr J t (J 8 t).toNat = J 10 t := by
  have ha := (C.ar h0 h1).1
  rw [(C.2.1 t h0 h1).1.2.1.1]
  rcases (show J 8 t = 0 ∨ J 8 t = 1 ∨ J 8 t = 2 ∨ J 8 t = 3 by omega) with h | h | h | h
  · simp [zs3, h, zfr]
  · simp [zs3, h, zfr]
  · simp [zs3, h, zfr]
    omega
  · simp [zs3, h, zfr]
    omega
theorem zfr_bd {J : zJ} {m t : Int} (C : CT J m) (h0 : 0 ≤ t) (h1 : t < m) : ∀ k : Nat, (k : Int) ≤ J 8 t → 1 + (k : Int) ≤ zfr J t k ∧ zfr J t k ≤ 1 + 364 * (k : Int)
  | 0, _ => by simp [zfr]
  | k + 1, h => by
    have ih := zfr_bd C h0 h1 k (by omega)
    have ha := C.arg h0 h1 (i := (k : Int)) (by omega) (by omega)
    have hn := C.nums (t := J 9 (t * 3 + k)) ha.1.1 (by omega)
    simp only [zfr]
    omega
theorem zfr_s {J : zJ} {t i : Int} (h : 0 ≤ i) : zfr J t (i + 1).toNat = zfr J t i.toNat + J 10 (J 9 (t * 3 + i)) := by
  rw [show (i + 1).toNat = i.toNat + 1 by omega]
  simp only [zfr]
  rw [show ((i.toNat : Nat) : Int) = i by omega]
set_option maxHeartbeats 4000000 in
set_option maxRecDepth 100000 in
theorem c_inArg {l : Launch} {G : tb_G} (hl : l.stackTraces = false) (n : Nat) (J : zJ) (t : Int) (p : Int) (i : Int) (hr_t : -2147483648 ≤ t ∧ t < 2147483648) (hr_p : -2147483648 ≤ p ∧ p < 2147483648) (hr_i : -2147483648 ≤ i ∧ i < 2147483648) (m : Int) (C : CT J m) (h0 : 0 ≤ t ∧ t < m) (hi : 0 ≤ i ∧ i ≤ J 8 t) (hp : 0 ≤ p ∧ p ≤ 400) : tz_Ok l G M_X9_placeInArgument 1 0 0 [.ref 6, zi t, zi p, zi i] n J (zqi (fun z J' => J = J' ∧ p - zfr J t i.toNat = z)) zN := by
  refine tz_Ok.of hl (by decide +kernel) rfl (tb_c1 rfl) (Nat.le_of_ble_eq_true rfl) ?_
  show tz_At l G M_X9_placeInArgument (tb_rm 1 0 0) none (tb_ZM G 0 0 (zQ n 0 (zqi (fun z J' => J = J' ∧ p - zfr J t i.toNat = z))) (zX n 0 zN)) 0 0 n J 0 [some (.ref 6), some (zi t), some (zi p), some (zi i), none, none] []
  have ht := C.told
  have har := C.ar h0.1 h0.2
  refine tz_iconst (pc := 0) dX9_placeInArgument_0 ?_
  refine tz_istore (pc := 1) (L2 := [_, _, _, _, _, _]) dX9_placeInArgument_1 (by decide) rfl ?_
  refine tz_iconst (pc := 3) dX9_placeInArgument_3 ?_
  refine tz_istore (pc := 4) (L2 := [_, _, _, _, _, _]) dX9_placeInArgument_4 (by decide) rfl ?_
  have loop6 : ∀ (f9 : Nat) (j : Int) (f : Int), ((3 - j).toNat) < f9 → (0 ≤ j ∧ j ≤ i) → (f = zfr J t j.toNat) → tz_At l G M_X9_placeInArgument (tb_rm 1 0 0) none (tb_ZM G 0 0 (zQ n 0 (zqi (fun z J' => J = J' ∧ p - zfr J t i.toNat = z))) (zX n 0 zN)) 0 0 n J 6 [some (.ref 6), some (zi t), some (zi p), some (zi i), some (zi f), some (zi j)] [] := by
    intro f9
    induction f9 with
    | zero => intro j f hm9; exact absurd hm9 (Nat.not_lt_zero _)
    | succ f9 ih6 =>
      intro j f hm6 hj hf
      have hb := zfr_bd C h0.1 h0.2 j.toNat (by omega)
      rw [← hf] at hb
      refine tz_iload (pc := 6) dX9_placeInArgument_6 rfl ?_
      refine tz_iload_n (pc := 8) dX9_placeInArgument_8 rfl rfl ?_
      refine tz_icmp_ge (pc := 9) (tgt := 35) dX9_placeInArgument_9 (by decide) (by omega) (by omega) (fun h_9 => ?_) (fun h_9 => ?_)
      · refine tz_iload_n (pc := 35) dX9_placeInArgument_35 rfl rfl ?_
        refine tz_iload (pc := 36) dX9_placeInArgument_36 rfl ?_
        refine tz_isub (pc := 38) (v := p - f) dX9_placeInArgument_38 rfl ?_
        exact tz_iret (pc := 39) (z := (p - f)) dX9_placeInArgument_39 rfl (Nat.le_of_ble_eq_true rfl) (Nat.le_of_ble_eq_true rfl) ⟨Nat.le_refl _, Nat.le_add_right _ _⟩ ⟨_, rfl, (by omega), ⟨rfl, by rw [hf, show i = j by omega]⟩⟩
      · refine tz_iload (pc := 12) dX9_placeInArgument_12 rfl ?_
        refine tz_aload_n (pc := 14) dX9_placeInArgument_14 rfl rfl ?_
        refine tz_fR (pc := 15) dX9_placeInArgument_15 fl_X9_21 r_6_4 ?_
        refine tz_aload_n (pc := 18) dX9_placeInArgument_18 rfl rfl ?_
        refine tz_iload_n (pc := 19) dX9_placeInArgument_19 rfl rfl ?_
        refine tz_iload (pc := 20) dX9_placeInArgument_20 rfl ?_
        refine tz_cV (pc := 22) (c_arg hl n _ _ _ (by omega) (by omega) (by omega)) vl_X9_99 dX9_placeInArgument_22 o_6 rfl rfl (Nat.le_of_ble_eq_true rfl) ⟨(Nat.le_of_ble_eq_true rfl), (Nat.le_of_ble_eq_true rfl)⟩ rfl rfl (Nat.le_of_ble_eq_true rfl) (Nat.le_of_ble_eq_true rfl) (fun r9 J_22 hq9 => ?_)
        obtain ⟨z_22, rfl, hz_22, rfl, rfl⟩ := hq9
        have hg := C.arg h0.1 h0.2 (i := j) (by omega) (by omega)
        have hn := C.nums (t := J 9 (t * 3 + j)) hg.1.1 (by omega)
        refine tz_aL (pc := 25) (z := (J 9 (t * 3 + j))) (v := (J 10 (J 9 (t * 3 + j)))) dX9_placeInArgument_25 a_10 rfl (by omega) rfl (fun r_25 => ?_)
        refine tz_iadd (pc := 26) (v := f + (J 10 (J 9 (t * 3 + j)))) dX9_placeInArgument_26 rfl ?_
        refine tz_istore (pc := 27) (L2 := [_, _, _, _, _, _]) dX9_placeInArgument_27 (by decide) rfl ?_
        refine tz_iinc (pc := 29) (z := j + 1) (L2 := [_, _, _, _, _, _]) dX9_placeInArgument_29 rfl (by omega) rfl ?_
        refine tz_goto (pc := 32) (tgt := 6) dX9_placeInArgument_32 (by decide) ?_
        exact ih6 (j + 1) _ (by omega) (by omega) (by rw [zfr_s (by omega), hf])
  exact loop6 _ 0 _ (Nat.lt_succ_self _) (by omega) rfl

set_option maxHeartbeats 4000000 in
set_option maxRecDepth 100000 in
theorem c_atPlace {l : Launch} {G : tb_G} (hl : l.stackTraces = false) (n : Nat) (J : zJ) (t : Int) (p : Int) (hr_t : -2147483648 ≤ t ∧ t < 2147483648) (hr_p : -2147483648 ≤ p ∧ p < 2147483648) (m : Int) (C : CT J m) (h0 : 0 ≤ t ∧ t < m) (hp : 1 ≤ p ∧ p < J 10 t) : tz_Ok l G M_X9_argumentAtPlace 1 0 0 [.ref 6, zi t, zi p] n J (zqi (fun z J' => J = J' ∧ (0 ≤ z ∧ z < J 8 t) ∧ zfr J t z.toNat ≤ p ∧ p < zfr J t (z + 1).toNat)) zN := by
  refine tz_Ok.of hl (by decide +kernel) rfl (tb_c1 rfl) (Nat.le_of_ble_eq_true rfl) ?_
  show tz_At l G M_X9_argumentAtPlace (tb_rm 1 0 0) none (tb_ZM G 0 0 (zQ n 0 (zqi (fun z J' => J = J' ∧ (0 ≤ z ∧ z < J 8 t) ∧ zfr J t z.toNat ≤ p ∧ p < zfr J t (z + 1).toNat))) (zX n 0 zN)) 0 0 n J 0 [some (.ref 6), some (zi t), some (zi p), none, none, none] []
  have ht := C.told
  have har := C.ar h0.1 h0.2
  have hE := zfr_end C h0.1 h0.2
  have ha1 : 1 ≤ J 8 t := by
    rcases (show J 8 t = 0 ∨ 1 ≤ J 8 t by omega) with h | h
    · rw [h] at hE
      have : zfr J t 0 = 1 := rfl
      simp at hE
      omega
    · exact h
  refine tz_iconst (pc := 0) dX9_argumentAtPlace_0 ?_
  refine tz_istore_n (pc := 1) (L2 := [_, _, _, _, _, _]) dX9_argumentAtPlace_1 rfl (by decide) rfl ?_
  refine tz_aload_n (pc := 2) dX9_argumentAtPlace_2 rfl rfl ?_
  refine tz_fR (pc := 3) dX9_argumentAtPlace_3 fl_X9_15 r_6_2 ?_
  refine tz_iload_n (pc := 6) dX9_argumentAtPlace_6 rfl rfl ?_
  refine tz_aL (pc := 7) (z := t) (v := (J 8 t)) dX9_argumentAtPlace_7 a_8 rfl (by omega) rfl (fun r_7 => ?_)
  refine tz_iconst (pc := 8) dX9_argumentAtPlace_8 ?_
  refine tz_isub (pc := 9) (v := (J 8 t) - 1) dX9_argumentAtPlace_9 rfl ?_
  refine tz_istore (pc := 10) (L2 := [_, _, _, _, _, _]) dX9_argumentAtPlace_10 (by decide) rfl ?_
  refine tz_iconst (pc := 12) dX9_argumentAtPlace_12 ?_
  refine tz_istore (pc := 13) (L2 := [_, _, _, _, _, _]) dX9_argumentAtPlace_13 (by decide) rfl ?_
  have loop15 : ∀ (f9 : Nat) (j : Int) (f : Int), ((3 - j).toNat) < f9 → (0 ≤ j ∧ j ≤ J 8 t - 1) → (f = zfr J t j.toNat) → (f ≤ p) → tz_At l G M_X9_argumentAtPlace (tb_rm 1 0 0) none (tb_ZM G 0 0 (zQ n 0 (zqi (fun z J' => J = J' ∧ (0 ≤ z ∧ z < J 8 t) ∧ zfr J t z.toNat ≤ p ∧ p < zfr J t (z + 1).toNat))) (zX n 0 zN)) 0 0 n J 15 [some (.ref 6), some (zi t), some (zi p), some (zi f), some (zi ((J 8 t) - 1)), some (zi j)] [] := by
    intro f9
    induction f9 with
    | zero => intro j f hm9; exact absurd hm9 (Nat.not_lt_zero _)
    | succ f9 ih15 =>
      intro j f hm15 hj hf hfp
      have hb := zfr_bd C h0.1 h0.2 j.toNat (by omega)
      have hs9 := zfr_s (J := J) (t := t) (i := j) (by omega)
      rw [← hf] at hb hs9
      refine tz_iload (pc := 15) dX9_argumentAtPlace_15 rfl ?_
      refine tz_iload (pc := 17) dX9_argumentAtPlace_17 rfl ?_
      refine tz_icmp_ge (pc := 19) (tgt := 51) dX9_argumentAtPlace_19 (by decide) (by omega) (by omega) (fun h_19 => ?_) (fun h_19 => ?_)
      · refine tz_iload (pc := 51) dX9_argumentAtPlace_51 rfl ?_
        refine tz_iconst (pc := 53) dX9_argumentAtPlace_53 ?_
        have hm_54 := zmax_le ((J 8 t) - 1) 0
        refine tz_mx (pc := 54) (v := zmax ((J 8 t) - 1) 0) dX9_argumentAtPlace_54 ml_X9_86 (Nat.le_of_ble_eq_true rfl) (Nat.le_of_ble_eq_true rfl) (Nat.le_of_ble_eq_true rfl) (Nat.le_of_ble_eq_true rfl) (by omega) (by decide) rfl ?_
        exact tz_iret (pc := 57) (z := (zmax ((J 8 t) - 1) 0)) dX9_argumentAtPlace_57 rfl (Nat.le_of_ble_eq_true rfl) (Nat.le_of_ble_eq_true rfl) ⟨Nat.le_refl _, Nat.le_add_right _ _⟩ ⟨_, rfl, (by omega), ⟨rfl, by omega, by rw [show zmax (J 8 t - 1) 0 = j by omega, ← hf]; exact hfp, by rw [show zmax (J 8 t - 1) 0 + 1 = J 8 t by omega, hE]; omega⟩⟩
      · refine tz_iload_n (pc := 22) dX9_argumentAtPlace_22 rfl rfl ?_
        refine tz_aload_n (pc := 23) dX9_argumentAtPlace_23 rfl rfl ?_
        refine tz_fR (pc := 24) dX9_argumentAtPlace_24 fl_X9_21 r_6_4 ?_
        refine tz_aload_n (pc := 27) dX9_argumentAtPlace_27 rfl rfl ?_
        refine tz_iload_n (pc := 28) dX9_argumentAtPlace_28 rfl rfl ?_
        refine tz_iload (pc := 29) dX9_argumentAtPlace_29 rfl ?_
        refine tz_cV (pc := 31) (c_arg hl n _ _ _ (by omega) (by omega) (by omega)) vl_X9_99 dX9_argumentAtPlace_31 o_6 rfl rfl (Nat.le_of_ble_eq_true rfl) ⟨(Nat.le_of_ble_eq_true rfl), (Nat.le_of_ble_eq_true rfl)⟩ rfl rfl (Nat.le_of_ble_eq_true rfl) (Nat.le_of_ble_eq_true rfl) (fun r9 J_31 hq9 => ?_)
        obtain ⟨z_31, rfl, hz_31, rfl, rfl⟩ := hq9
        have hg := C.arg h0.1 h0.2 (i := j) (by omega) (by omega)
        have hn := C.nums (t := J 9 (t * 3 + j)) hg.1.1 (by omega)
        refine tz_aL (pc := 34) (z := (J 9 (t * 3 + j))) (v := (J 10 (J 9 (t * 3 + j)))) dX9_argumentAtPlace_34 a_10 rfl (by omega) rfl (fun r_34 => ?_)
        refine tz_iadd (pc := 35) (v := f + (J 10 (J 9 (t * 3 + j)))) dX9_argumentAtPlace_35 rfl ?_
        refine tz_istore_n (pc := 36) (L2 := [_, _, _, _, _, _]) dX9_argumentAtPlace_36 rfl (by decide) rfl ?_
        refine tz_iload_n (pc := 37) dX9_argumentAtPlace_37 rfl rfl ?_
        refine tz_iload_n (pc := 38) dX9_argumentAtPlace_38 rfl rfl ?_
        refine tz_icmp_ge (pc := 39) (tgt := 45) dX9_argumentAtPlace_39 (by decide) (by omega) (by omega) (fun h_39 => ?_) (fun h_39 => ?_)
        · refine tz_iinc (pc := 45) (z := j + 1) (L2 := [_, _, _, _, _, _]) dX9_argumentAtPlace_45 rfl (by omega) rfl ?_
          refine tz_goto (pc := 48) (tgt := 15) dX9_argumentAtPlace_48 (by decide) ?_
          exact ih15 (j + 1) _ (by omega) (by omega) (by rw [hs9]) (by omega)
        · refine tz_iload (pc := 42) dX9_argumentAtPlace_42 rfl ?_
          exact tz_iret (pc := 44) (z := j) dX9_argumentAtPlace_44 rfl (Nat.le_of_ble_eq_true rfl) (Nat.le_of_ble_eq_true rfl) ⟨Nat.le_refl _, Nat.le_add_right _ _⟩ ⟨_, rfl, (by omega), ⟨rfl, by omega, by rw [← hf]; exact hfp, by rw [hs9]; omega⟩⟩
  exact loop15 _ 0 _ (Nat.lt_succ_self _) (by omega) rfl (by omega)

end
section
set_option maxHeartbeats 4000000 in
set_option maxRecDepth 100000 in
theorem c_inPlace {l : Launch} {G : tb_G} (hl : l.stackTraces = false) (n : Nat) (J : zJ) (t : Int) (p : Int) (hr_t : -2147483648 ≤ t ∧ t < 2147483648) (hr_p : -2147483648 ≤ p ∧ p < 2147483648) (m : Int) (C : CT J m) (h0 : 0 ≤ t ∧ t < m) (hp : 0 ≤ p ∧ p < J 10 t) : tz_Ok l G M_X9_inPlace 2 0 0 [.ref 6, zi t, zi p] n J (zqi (fun z J' => J = J' ∧ 0 ≤ z ∧ z ≤ t)) zN := by
  refine tz_Ok.of hl (by decide +kernel) rfl (tb_c1 rfl) (Nat.le_of_ble_eq_true rfl) ?_
  show tz_At l G M_X9_inPlace (tb_rm 2 0 0) none (tb_ZM G 0 0 (zQ n 0 (zqi (fun z J' => J = J' ∧ 0 ≤ z ∧ z ≤ t))) (zX n 0 zN)) 0 0 n J 0 [some (.ref 6), some (zi t), some (zi p), none, none, none, none] []
  have ht := C.told
  refine tz_iload_n (pc := 0) dX9_inPlace_0 rfl rfl ?_
  refine tz_istore_n (pc := 1) (L2 := [_, _, _, _, _, _, _]) dX9_inPlace_1 rfl (by decide) rfl ?_
  refine tz_iload_n (pc := 2) dX9_inPlace_2 rfl rfl ?_
  refine tz_istore (pc := 3) (L2 := [_, _, _, _, _, _, _]) dX9_inPlace_3 (by decide) rfl ?_
  refine tz_iconst (pc := 5) dX9_inPlace_5 ?_
  refine tz_istore (pc := 6) (L2 := [_, _, _, _, _, _, _]) dX9_inPlace_6 (by decide) rfl ?_
  have loop8 : ∀ (f9 : Nat) (x : Int) (q : Int) (k : Int) (d6 : Option Value), ((6 - k).toNat) < f9 → (0 ≤ k ∧ k ≤ 6) → (0 ≤ x ∧ x ≤ t) → (0 ≤ q ∧ q < J 10 x) → tz_At l G M_X9_inPlace (tb_rm 2 0 0) none (tb_ZM G 0 0 (zQ n 0 (zqi (fun z J' => J = J' ∧ 0 ≤ z ∧ z ≤ t))) (zX n 0 zN)) 0 0 n J 8 [some (.ref 6), some (zi t), some (zi p), some (zi x), some (zi q), some (zi k), d6] [] := by
    intro f9
    induction f9 with
    | zero => intro x q k d6 hm9; exact absurd hm9 (Nat.not_lt_zero _)
    | succ f9 ih8 =>
      intro x q k d6 hm8 hk hx hq
      have hn := C.nums (t := x) (by omega) (by omega)
      have har := C.ar (t := x) (by omega) (by omega)
      refine tz_iload (pc := 8) dX9_inPlace_8 rfl ?_
      refine tz_bipush (pc := 10) dX9_inPlace_10 (by decide) ?_
      refine tz_icmp_ge (pc := 12) (tgt := 54) dX9_inPlace_12 (by decide) (by omega) (by decide) (fun h_12 => ?_) (fun h_12 => ?_)
      · refine tz_iload_n (pc := 54) dX9_inPlace_54 rfl rfl ?_
        exact tz_iret (pc := 55) (z := x) dX9_inPlace_55 rfl (Nat.le_of_ble_eq_true rfl) (Nat.le_of_ble_eq_true rfl) ⟨Nat.le_refl _, Nat.le_add_right _ _⟩ ⟨_, rfl, (by omega), ⟨rfl, by omega, by omega⟩⟩
      · refine tz_iload (pc := 15) dX9_inPlace_15 rfl ?_
        refine tz_if_le (pc := 17) (tgt := 54) dX9_inPlace_17 (by decide) (by omega) (fun h_17 => ?_) (fun h_17 => ?_)
        · refine tz_iload_n (pc := 54) dX9_inPlace_54 rfl rfl ?_
          exact tz_iret (pc := 55) (z := x) dX9_inPlace_55 rfl (Nat.le_of_ble_eq_true rfl) (Nat.le_of_ble_eq_true rfl) ⟨Nat.le_refl _, Nat.le_add_right _ _⟩ ⟨_, rfl, (by omega), ⟨rfl, by omega, by omega⟩⟩
        · refine tz_aload_n (pc := 20) dX9_inPlace_20 rfl rfl ?_
          refine tz_iload_n (pc := 21) dX9_inPlace_21 rfl rfl ?_
          refine tz_iload (pc := 22) dX9_inPlace_22 rfl ?_
          refine tz_cV (pc := 24) (c_atPlace hl n _ _ _ (by omega) (by omega) m C (by omega) (by omega)) vl_X9_92 dX9_inPlace_24 o_6 rfl rfl (Nat.le_of_ble_eq_true rfl) ⟨(Nat.le_of_ble_eq_true rfl), (Nat.le_of_ble_eq_true rfl)⟩ rfl rfl (Nat.le_of_ble_eq_true rfl) (Nat.le_of_ble_eq_true rfl) (fun r9 J_24 hq9 => ?_)
          obtain ⟨z_24, rfl, hz_24, rfl, hz1, hz2, hz3⟩ := hq9
          have hg := C.arg (t := x) (i := z_24) (by omega) (by omega) (by omega) (by omega)
          have hb := zfr_bd C (t := x) (by omega) (by omega) z_24.toNat (by omega)
          refine tz_istore (pc := 27) (L2 := [_, _, _, _, _, _, _]) dX9_inPlace_27 (by decide) rfl ?_
          refine tz_aload_n (pc := 29) dX9_inPlace_29 rfl rfl ?_
          refine tz_iload_n (pc := 30) dX9_inPlace_30 rfl rfl ?_
          refine tz_iload (pc := 31) dX9_inPlace_31 rfl ?_
          refine tz_iload (pc := 33) dX9_inPlace_33 rfl ?_
          refine tz_cV (pc := 35) (c_inArg hl n _ _ _ _ (by omega) (by omega) (by omega) m C (by omega) (by omega) (by omega)) vl_X9_95 dX9_inPlace_35 o_6 rfl rfl (Nat.le_of_ble_eq_true rfl) ⟨(Nat.le_of_ble_eq_true rfl), (Nat.le_of_ble_eq_true rfl)⟩ rfl rfl (Nat.le_of_ble_eq_true rfl) (Nat.le_of_ble_eq_true rfl) (fun r9 J_35 hq9 => ?_)
          obtain ⟨z_35, rfl, hz_35, rfl, rfl⟩ := hq9
          refine tz_istore (pc := 38) (L2 := [_, _, _, _, _, _, _]) dX9_inPlace_38 (by decide) rfl ?_
          refine tz_aload_n (pc := 40) dX9_inPlace_40 rfl rfl ?_
          refine tz_iload_n (pc := 41) dX9_inPlace_41 rfl rfl ?_
          refine tz_iload (pc := 42) dX9_inPlace_42 rfl ?_
          refine tz_cV (pc := 44) (c_arg hl n _ _ _ (by omega) (by omega) (by omega)) vl_X9_99 dX9_inPlace_44 o_6 rfl rfl (Nat.le_of_ble_eq_true rfl) ⟨(Nat.le_of_ble_eq_true rfl), (Nat.le_of_ble_eq_true rfl)⟩ rfl rfl (Nat.le_of_ble_eq_true rfl) (Nat.le_of_ble_eq_true rfl) (fun r9 J_44 hq9 => ?_)
          obtain ⟨z_44, rfl, hz_44, rfl, rfl⟩ := hq9
          refine tz_istore_n (pc := 47) (L2 := [_, _, _, _, _, _, _]) dX9_inPlace_47 rfl (by decide) rfl ?_
          refine tz_iinc (pc := 48) (z := k + 1) (L2 := [_, _, _, _, _, _, _]) dX9_inPlace_48 rfl (by omega) rfl ?_
          refine tz_goto (pc := 51) (tgt := 8) dX9_inPlace_51 (by decide) ?_
          exact ih8 _ _ (k + 1) _ (by omega) (by omega) (by omega) (by have := zfr_s (J := J) (t := x) (i := z_24) (by omega); omega)
  exact loop8 _ _ _ 0 none (Nat.lt_succ_self _) (by omega) (by omega) hp

set_option maxHeartbeats 4000000 in
set_option maxRecDepth 100000 in
theorem c_mark {l : Launch} {G : tb_G} (hl : l.stackTraces = false) (n : Nat) (J : zJ) (t : Int) (hr_t : -2147483648 ≤ t ∧ t < 2147483648) (m : Int) (C : CT J m) (h0 : 0 ≤ t ∧ t < m) : tz_Ok l G M_X9_markParts 1 0 0 [.ref 6, zi t] n J (zqv (fun J' => zOf (zbut [17]) J' J ∧ ∀ k, 0 ≤ k → k < 401 → J' 17 k = 0 ∨ J' 17 k = 1)) zN := by
  refine tz_Ok.of hl (by decide +kernel) rfl (tb_c1 rfl) (Nat.le_of_ble_eq_true rfl) ?_
  show tz_At l G M_X9_markParts (tb_rm 1 0 0) none (tb_ZM G 0 0 (zQ n 0 (zqv (fun J' => zOf (zbut [17]) J' J ∧ ∀ k, 0 ≤ k → k < 401 → J' 17 k = 0 ∨ J' 17 k = 1))) (zX n 0 zN)) 0 0 n J 0 [some (.ref 6), some (zi t), none, none] []
  have ht := C.told
  refine tz_aload_n (pc := 0) dX9_markParts_0 rfl rfl ?_
  refine tz_fR (pc := 1) dX9_markParts_1 fl_X9_42 r_6_11 ?_
  refine tz_iconst (pc := 4) dX9_markParts_4 ?_
  refine tz_cS (pc := 5) (zJ_fill hl n _ 17 _ 401 0 (by decide) a_17 rfl) sl_X9_53 dX9_markParts_5 rfl rfl (Nat.le_of_ble_eq_true rfl) ⟨(Nat.le_of_ble_eq_true rfl), (Nat.le_of_ble_eq_true rfl)⟩ rfl rfl (Nat.le_of_ble_eq_true rfl) (Nat.le_of_ble_eq_true rfl) (fun r9 J_5 hq9 => ?_)
  obtain ⟨rfl, rfl⟩ := hq9
  refine tz_aload_n (pc := 8) dX9_markParts_8 rfl rfl ?_
  refine tz_fR (pc := 9) dX9_markParts_9 fl_X9_42 r_6_11 ?_
  refine tz_iload_n (pc := 12) dX9_markParts_12 rfl rfl ?_
  refine tz_iconst (pc := 13) dX9_markParts_13 ?_
  refine tz_aS (pc := 14) (z := t) dX9_markParts_14 a_17 rfl (by omega) (by decide) ?_
  refine tz_iload_n (pc := 15) dX9_markParts_15 rfl rfl ?_
  refine tz_istore_n (pc := 16) (L2 := [_, _, _, _]) dX9_markParts_16 rfl (by decide) rfl ?_
  have loop17 : ∀ (f9 : Nat) (k : Int) (d3 : Option Value) (J1 : zJ), ((k + 1).toNat) < f9 → (-1 ≤ k ∧ k ≤ t) → (zOf (zbut [17]) J1 J) → (∀ k, 0 ≤ k → k < 401 → J1 17 k = 0 ∨ J1 17 k = 1) → tz_At l G M_X9_markParts (tb_rm 1 0 0) none (tb_ZM G 0 0 (zQ n 0 (zqv (fun J' => zOf (zbut [17]) J' J ∧ ∀ k, 0 ≤ k → k < 401 → J' 17 k = 0 ∨ J' 17 k = 1))) (zX n 0 zN)) 0 0 n J1 17 [some (.ref 6), some (zi t), some (zi k), d3] [] := by
    intro f9
    induction f9 with
    | zero => intro k d3 J1 hm9; exact absurd hm9 (Nat.not_lt_zero _)
    | succ f9 ih17 =>
      intro k d3 J1 hm17 hk fr h1
      refine tz_iload_n (pc := 17) dX9_markParts_17 rfl rfl ?_
      refine tz_if_lt (pc := 18) (tgt := 67) dX9_markParts_18 (by decide) (by omega) (fun h_18 => ?_) (fun h_18 => ?_)
      · exact tz_vret (pc := 67) dX9_markParts_67 rfl (Nat.le_of_ble_eq_true rfl) (Nat.le_of_ble_eq_true rfl) ⟨Nat.le_refl _, Nat.le_add_right _ _⟩ ⟨rfl, ⟨fr, h1⟩⟩
      · refine tz_iconst (pc := 21) dX9_markParts_21 ?_
        refine tz_istore_n (pc := 22) (L2 := [_, _, _, _]) dX9_markParts_22 rfl (by decide) rfl ?_
        have loop23 : ∀ (f9 : Nat) (i : Int) (J2 : zJ), ((3 - i).toNat) < f9 → (0 ≤ i ∧ i ≤ J 8 k) → (zOf (zbut [17]) J2 J1) → (∀ k, 0 ≤ k → k < 401 → J2 17 k = 0 ∨ J2 17 k = 1) → tz_At l G M_X9_markParts (tb_rm 1 0 0) none (tb_ZM G 0 0 (zQ n 0 (zqv (fun J' => zOf (zbut [17]) J' J ∧ ∀ k, 0 ≤ k → k < 401 → J' 17 k = 0 ∨ J' 17 k = 1))) (zX n 0 zN)) 0 0 n J2 23 [some (.ref 6), some (zi t), some (zi k), some (zi i)] [] := by
          intro f9
          induction f9 with
          | zero => intro i J2 hm9; exact absurd hm9 (Nat.not_lt_zero _)
          | succ f9 ih23 =>
            intro i J2 hm23 hi fr2 h2
            have har := C.ar (t := k) (by omega) (by omega)
            refine tz_aload_n (pc := 23) dX9_markParts_23 rfl rfl ?_
            refine tz_fR (pc := 24) dX9_markParts_24 fl_X9_42 r_6_11 ?_
            refine tz_iload_n (pc := 27) dX9_markParts_27 rfl rfl ?_
            refine tz_aL (pc := 28) (z := k) (v := (J2 17 k)) dX9_markParts_28 a_17 rfl (by omega) rfl (fun r_28 => ?_)
            refine tz_iconst (pc := 29) dX9_markParts_29 ?_
            refine tz_icmp_ne (pc := 30) (tgt := 61) dX9_markParts_30 (by decide) (by omega) (by decide) (fun h_30 => ?_) (fun h_30 => ?_)
            · refine tz_iinc (pc := 61) (z := k - 1) (L2 := [_, _, _, _]) dX9_markParts_61 rfl (by omega) rfl ?_
              refine tz_goto (pc := 64) (tgt := 17) dX9_markParts_64 (by decide) ?_
              exact ih17 (k - 1) _ _ (by omega) (by omega) (zOf.tr fr2 fr) h2
            · refine tz_iload_n (pc := 33) dX9_markParts_33 rfl rfl ?_
              refine tz_aload_n (pc := 34) dX9_markParts_34 rfl rfl ?_
              refine tz_fR (pc := 35) dX9_markParts_35 fl_X9_15 r_6_2 ?_
              refine tz_iload_n (pc := 38) dX9_markParts_38 rfl rfl ?_
              refine tz_aL (pc := 39) (z := k) (v := (J 8 k)) dX9_markParts_39 a_8 rfl (by omega) (Eq.trans (congrFun (fr2 8 rfl) k) (Eq.trans (congrFun (fr 8 rfl) k) rfl)) (fun r_39 => ?_)
              refine tz_icmp_ge (pc := 40) (tgt := 61) dX9_markParts_40 (by decide) (by omega) (by omega) (fun h_40 => ?_) (fun h_40 => ?_)
              · refine tz_iinc (pc := 61) (z := k - 1) (L2 := [_, _, _, _]) dX9_markParts_61 rfl (by omega) rfl ?_
                refine tz_goto (pc := 64) (tgt := 17) dX9_markParts_64 (by decide) ?_
                exact ih17 (k - 1) _ _ (by omega) (by omega) (zOf.tr fr2 fr) h2
              · have hg := C.arg (t := k) (i := i) (by omega) (by omega) (by omega) (by omega)
                refine tz_aload_n (pc := 43) dX9_markParts_43 rfl rfl ?_
                refine tz_fR (pc := 44) dX9_markParts_44 fl_X9_42 r_6_11 ?_
                refine tz_aload_n (pc := 47) dX9_markParts_47 rfl rfl ?_
                refine tz_iload_n (pc := 48) dX9_markParts_48 rfl rfl ?_
                refine tz_iload_n (pc := 49) dX9_markParts_49 rfl rfl ?_
                refine tz_cV (pc := 50) (c_arg hl n _ _ _ (by omega) (by omega) (by omega)) vl_X9_99 dX9_markParts_50 o_6 rfl rfl (Nat.le_of_ble_eq_true rfl) ⟨(Nat.le_of_ble_eq_true rfl), (Nat.le_of_ble_eq_true rfl)⟩ rfl rfl (Nat.le_of_ble_eq_true rfl) (Nat.le_of_ble_eq_true rfl) (fun r9 J_50 hq9 => ?_)
                obtain ⟨z_50, rfl, hz_50, rfl, hv_50⟩ := hq9
                obtain rfl : (J 9 (k * 3 + i)) = z_50 := by rw [← hv_50, show J2 9 = J 9 from (fr2 9 rfl).trans (fr 9 rfl)]
                refine tz_iconst (pc := 53) dX9_markParts_53 ?_
                refine tz_aS (pc := 54) (z := (J 9 (k * 3 + i))) dX9_markParts_54 a_17 rfl (by omega) (by decide) ?_
                refine tz_iinc (pc := 55) (z := i + 1) (L2 := [_, _, _, _]) dX9_markParts_55 rfl (by omega) rfl ?_
                refine tz_goto (pc := 58) (tgt := 23) dX9_markParts_58 (by decide) ?_
                exact ih23 (i + 1) _ (by omega) (by omega) (zOf.up rfl fr2) (fun q a b => (Decidable.em (q = J 9 (k * 3 + i))).elim (fun e => Or.inr (by rw [e]; exact zup_at)) (fun e => by rw [zup_ne e]; exact h2 q a b))
        exact loop23 _ 0 _ (Nat.lt_succ_self _) (by have := C.ar (t := k) (by omega) (by omega); omega) zOf.rf h1
  exact loop17 _ _ none _ (Nat.lt_succ_self _) (by omega) (zOf.up rfl (zOf.fl rfl zOf.rf)) (fun k a b => (Decidable.em (k = t)).elim (fun e => Or.inr (by rw [e]; exact zup_at)) (fun e => Or.inl ((zup_ne e).trans (zfl_in b))))

set_option maxHeartbeats 4000000 in
set_option maxRecDepth 100000 in
theorem c_shared {l : Launch} {G : tb_G} (hl : l.stackTraces = false) (n : Nat) (J : zJ) (t : Int) (hr_t : -2147483648 ≤ t ∧ t < 2147483648) (m : Int) (C : CT J m) (h0 : 0 ≤ t ∧ t < m) : tz_Ok l G M_X9_shared 2 0 0 [.ref 6, zi t] n J (zqi (fun z J' => zOf (zbut [17]) J' J ∧ 0 ≤ z ∧ z ≤ 401)) zN := by
  refine tz_Ok.of hl (by decide +kernel) rfl (tb_c1 rfl) (Nat.le_of_ble_eq_true rfl) ?_
  show tz_At l G M_X9_shared (tb_rm 2 0 0) none (tb_ZM G 0 0 (zQ n 0 (zqi (fun z J' => zOf (zbut [17]) J' J ∧ 0 ≤ z ∧ z ≤ 401))) (zX n 0 zN)) 0 0 n J 0 [some (.ref 6), some (zi t), none, none] []
  have ht := C.told
  refine tz_aload_n (pc := 0) dX9_shared_0 rfl rfl ?_
  refine tz_iload_n (pc := 1) dX9_shared_1 rfl rfl ?_
  refine tz_cV (pc := 2) (c_mark hl n _ _ (by omega) m C h0) vl_X9_102 dX9_shared_2 o_6 rfl rfl (Nat.le_of_ble_eq_true rfl) ⟨(Nat.le_of_ble_eq_true rfl), (Nat.le_of_ble_eq_true rfl)⟩ rfl rfl (Nat.le_of_ble_eq_true rfl) (Nat.le_of_ble_eq_true rfl) (fun r9 J_2 hq9 => ?_)
  obtain ⟨rfl, fr, h1⟩ := hq9
  refine tz_iconst (pc := 5) dX9_shared_5 ?_
  refine tz_istore_n (pc := 6) (L2 := [_, _, _, _]) dX9_shared_6 rfl (by decide) rfl ?_
  refine tz_iconst (pc := 7) dX9_shared_7 ?_
  refine tz_istore_n (pc := 8) (L2 := [_, _, _, _]) dX9_shared_8 rfl (by decide) rfl ?_
  have loop9 : ∀ (f9 : Nat) (k : Int) (s : Int), ((t + 1 - k).toNat) < f9 → (0 ≤ k ∧ k ≤ t + 1) → (0 ≤ s ∧ s ≤ k) → tz_At l G M_X9_shared (tb_rm 2 0 0) none (tb_ZM G 0 0 (zQ n 0 (zqi (fun z J' => zOf (zbut [17]) J' J ∧ 0 ≤ z ∧ z ≤ 401))) (zX n 0 zN)) 0 0 n J_2 9 [some (.ref 6), some (zi t), some (zi s), some (zi k)] [] := by
    intro f9
    induction f9 with
    | zero => intro k s hm9; exact absurd hm9 (Nat.not_lt_zero _)
    | succ f9 ih9 =>
      intro k s hm9 hk hs
      refine tz_iload_n (pc := 9) dX9_shared_9 rfl rfl ?_
      refine tz_iload_n (pc := 10) dX9_shared_10 rfl rfl ?_
      refine tz_icmp_gt (pc := 11) (tgt := 29) dX9_shared_11 (by decide) (by omega) (by omega) (fun h_11 => ?_) (fun h_11 => ?_)
      · refine tz_iload_n (pc := 29) dX9_shared_29 rfl rfl ?_
        exact tz_iret (pc := 30) (z := s) dX9_shared_30 rfl (Nat.le_of_ble_eq_true rfl) (Nat.le_of_ble_eq_true rfl) ⟨Nat.le_refl _, Nat.le_add_right _ _⟩ ⟨_, rfl, (by omega), ⟨fr, by omega, by omega⟩⟩
      · refine tz_iload_n (pc := 14) dX9_shared_14 rfl rfl ?_
        refine tz_aload_n (pc := 15) dX9_shared_15 rfl rfl ?_
        refine tz_fR (pc := 16) dX9_shared_16 fl_X9_42 r_6_11 ?_
        refine tz_iload_n (pc := 19) dX9_shared_19 rfl rfl ?_
        have hg := h1 k (by omega) (by omega)
        refine tz_aL (pc := 20) (z := k) (v := (J_2 17 k)) dX9_shared_20 a_17 rfl (by omega) rfl (fun r_20 => ?_)
        refine tz_iadd (pc := 21) (v := s + (J_2 17 k)) dX9_shared_21 rfl ?_
        refine tz_istore_n (pc := 22) (L2 := [_, _, _, _]) dX9_shared_22 rfl (by decide) rfl ?_
        refine tz_iinc (pc := 23) (z := k + 1) (L2 := [_, _, _, _]) dX9_shared_23 rfl (by omega) rfl ?_
        refine tz_goto (pc := 26) (tgt := 9) dX9_shared_26 (by decide) ?_
        exact ih9 (k + 1) _ (by omega) (by omega) (by omega)
  exact loop9 _ 0 _ (Nat.lt_succ_self _) (by omega) (by omega)

set_option maxHeartbeats 4000000 in
set_option maxRecDepth 100000 in
theorem c_users {l : Launch} {G : tb_G} (hl : l.stackTraces = false) (n : Nat) (J : zJ) (t : Int) (hr_t : -2147483648 ≤ t ∧ t < 2147483648) (m : Int) (C : CT J m) (hm : J 6 12 = m) (h0 : 0 ≤ t ∧ t < m) : tz_Ok l G M_X9_users 1 0 0 [.ref 6, zi t] n J (zqi (fun z J' => J = J')) zN := by
  refine tz_Ok.of hl (by decide +kernel) rfl (tb_c1 rfl) (Nat.le_of_ble_eq_true rfl) ?_
  show tz_At l G M_X9_users (tb_rm 1 0 0) none (tb_ZM G 0 0 (zQ n 0 (zqi (fun z J' => J = J'))) (zX n 0 zN)) 0 0 n J 0 [some (.ref 6), some (zi t), none, none] []
  have ht := C.told
  refine tz_iconst (pc := 0) dX9_users_0 ?_
  refine tz_istore_n (pc := 1) (L2 := [_, _, _, _]) dX9_users_1 rfl (by decide) rfl ?_
  refine tz_iload_n (pc := 2) dX9_users_2 rfl rfl ?_
  refine tz_iconst (pc := 3) dX9_users_3 ?_
  refine tz_iadd (pc := 4) (v := t + 1) dX9_users_4 rfl ?_
  refine tz_istore_n (pc := 5) (L2 := [_, _, _, _]) dX9_users_5 rfl (by decide) rfl ?_
  have loop6 : ∀ (f9 : Nat) (k : Int) (s : Int), ((m - k).toNat) < f9 → (0 ≤ k ∧ k ≤ m) → (0 ≤ s ∧ s ≤ k) → tz_At l G M_X9_users (tb_rm 1 0 0) none (tb_ZM G 0 0 (zQ n 0 (zqi (fun z J' => J = J'))) (zX n 0 zN)) 0 0 n J 6 [some (.ref 6), some (zi t), some (zi s), some (zi k)] [] := by
    intro f9
    induction f9 with
    | zero => intro k s hm9; exact absurd hm9 (Nat.not_lt_zero _)
    | succ f9 ih6 =>
      intro k s hm6 hk hs
      refine tz_iload_n (pc := 6) dX9_users_6 rfl rfl ?_
      refine tz_aload_n (pc := 7) dX9_users_7 rfl rfl ?_
      refine tz_fI (pc := 8) (kz := 12) (v := m) dX9_users_8 fl_X9_45 i_6_12 rfl hm (fun r_8 => ?_)
      refine tz_icmp_ge (pc := 11) (tgt := 53) dX9_users_11 (by decide) (by omega) (by omega) (fun h_11 => ?_) (fun h_11 => ?_)
      · refine tz_iload_n (pc := 53) dX9_users_53 rfl rfl ?_
        exact tz_iret (pc := 54) (z := s) dX9_users_54 rfl (Nat.le_of_ble_eq_true rfl) (Nat.le_of_ble_eq_true rfl) ⟨Nat.le_refl _, Nat.le_add_right _ _⟩ ⟨_, rfl, (by omega), rfl⟩
      · refine tz_aload_n (pc := 14) dX9_users_14 rfl rfl ?_
        refine tz_iload_n (pc := 15) dX9_users_15 rfl rfl ?_
        refine tz_iconst (pc := 16) dX9_users_16 ?_
        refine tz_cV (pc := 17) (c_arg hl n _ _ _ (by omega) (by omega) (by omega)) vl_X9_99 dX9_users_17 o_6 rfl rfl (Nat.le_of_ble_eq_true rfl) ⟨(Nat.le_of_ble_eq_true rfl), (Nat.le_of_ble_eq_true rfl)⟩ rfl rfl (Nat.le_of_ble_eq_true rfl) (Nat.le_of_ble_eq_true rfl) (fun r9 J_17 hq9 => ?_)
        obtain ⟨z_17, rfl, hz_17, rfl, -⟩ := hq9
        refine tz_iload_n (pc := 20) dX9_users_20 rfl rfl ?_
        refine tz_icmp_eq (pc := 21) (tgt := 44) dX9_users_21 (by decide) (by omega) (by omega) (fun h_21 => ?_) (fun h_21 => ?_)
        · refine tz_iinc (pc := 44) (z := s + 1) (L2 := [_, _, _, _]) dX9_users_44 rfl (by omega) rfl ?_
          refine tz_iinc (pc := 47) (z := k + 1) (L2 := [_, _, _, _]) dX9_users_47 rfl (by omega) rfl ?_
          refine tz_goto (pc := 50) (tgt := 6) dX9_users_50 (by decide) ?_
          exact ih6 (k + 1) _ (by omega) (by omega) (by omega)
        · refine tz_aload_n (pc := 24) dX9_users_24 rfl rfl ?_
          refine tz_iload_n (pc := 25) dX9_users_25 rfl rfl ?_
          refine tz_iconst (pc := 26) dX9_users_26 ?_
          refine tz_cV (pc := 27) (c_arg hl n _ _ _ (by omega) (by omega) (by omega)) vl_X9_99 dX9_users_27 o_6 rfl rfl (Nat.le_of_ble_eq_true rfl) ⟨(Nat.le_of_ble_eq_true rfl), (Nat.le_of_ble_eq_true rfl)⟩ rfl rfl (Nat.le_of_ble_eq_true rfl) (Nat.le_of_ble_eq_true rfl) (fun r9 J_27 hq9 => ?_)
          obtain ⟨z_27, rfl, hz_27, rfl, -⟩ := hq9
          refine tz_iload_n (pc := 30) dX9_users_30 rfl rfl ?_
          refine tz_icmp_eq (pc := 31) (tgt := 44) dX9_users_31 (by decide) (by omega) (by omega) (fun h_31 => ?_) (fun h_31 => ?_)
          · refine tz_iinc (pc := 44) (z := s + 1) (L2 := [_, _, _, _]) dX9_users_44 rfl (by omega) rfl ?_
            refine tz_iinc (pc := 47) (z := k + 1) (L2 := [_, _, _, _]) dX9_users_47 rfl (by omega) rfl ?_
            refine tz_goto (pc := 50) (tgt := 6) dX9_users_50 (by decide) ?_
            exact ih6 (k + 1) _ (by omega) (by omega) (by omega)
          · refine tz_aload_n (pc := 34) dX9_users_34 rfl rfl ?_
            refine tz_iload_n (pc := 35) dX9_users_35 rfl rfl ?_
            refine tz_iconst (pc := 36) dX9_users_36 ?_
            refine tz_cV (pc := 37) (c_arg hl n _ _ _ (by omega) (by omega) (by omega)) vl_X9_99 dX9_users_37 o_6 rfl rfl (Nat.le_of_ble_eq_true rfl) ⟨(Nat.le_of_ble_eq_true rfl), (Nat.le_of_ble_eq_true rfl)⟩ rfl rfl (Nat.le_of_ble_eq_true rfl) (Nat.le_of_ble_eq_true rfl) (fun r9 J_37 hq9 => ?_)
            obtain ⟨z_37, rfl, hz_37, rfl, -⟩ := hq9
            refine tz_iload_n (pc := 40) dX9_users_40 rfl rfl ?_
            refine tz_icmp_ne (pc := 41) (tgt := 47) dX9_users_41 (by decide) (by omega) (by omega) (fun h_41 => ?_) (fun h_41 => ?_)
            · refine tz_iinc (pc := 47) (z := k + 1) (L2 := [_, _, _, _]) dX9_users_47 rfl (by omega) rfl ?_
              refine tz_goto (pc := 50) (tgt := 6) dX9_users_50 (by decide) ?_
              exact ih6 (k + 1) _ (by omega) (by omega) (by omega)
            · refine tz_iinc (pc := 44) (z := s + 1) (L2 := [_, _, _, _]) dX9_users_44 rfl (by omega) rfl ?_
              refine tz_iinc (pc := 47) (z := k + 1) (L2 := [_, _, _, _]) dX9_users_47 rfl (by omega) rfl ?_
              refine tz_goto (pc := 50) (tgt := 6) dX9_users_50 (by decide) ?_
              exact ih6 (k + 1) _ (by omega) (by omega) (by omega)
  exact loop6 _ _ _ (Nat.lt_succ_self _) (by omega) (by omega)

set_option maxHeartbeats 4000000 in
set_option maxRecDepth 100000 in
theorem c_unlike {l : Launch} {G : tb_G} (hl : l.stackTraces = false) (n : Nat) (J : zJ)   (m : Int) (hm : J 6 12 = m) (h0 : 0 ≤ m ∧ m ≤ 400) : tz_Ok l G M_X9_unlikeShapes 0 0 0 [.ref 6] n J (zqi (fun z J' => J = J')) zN := by
  refine tz_Ok.of hl (by decide +kernel) rfl (tb_c1 rfl) (Nat.le_of_ble_eq_true rfl) ?_
  show tz_At l G M_X9_unlikeShapes (tb_rm 0 0 0) none (tb_ZM G 0 0 (zQ n 0 (zqi (fun z J' => J = J'))) (zX n 0 zN)) 0 0 n J 0 [some (.ref 6), none, none] []
  refine tz_iconst (pc := 0) dX9_unlikeShapes_0 ?_
  refine tz_istore_n (pc := 1) (L2 := [_, _, _]) dX9_unlikeShapes_1 rfl (by decide) rfl ?_
  refine tz_iconst (pc := 2) dX9_unlikeShapes_2 ?_
  refine tz_istore_n (pc := 3) (L2 := [_, _, _]) dX9_unlikeShapes_3 rfl (by decide) rfl ?_
  have loop4 : ∀ (f9 : Nat) (k : Int) (s : Int), ((m - k).toNat) < f9 → (0 ≤ k ∧ k ≤ m) → (0 ≤ s ∧ s ≤ k) → tz_At l G M_X9_unlikeShapes (tb_rm 0 0 0) none (tb_ZM G 0 0 (zQ n 0 (zqi (fun z J' => J = J'))) (zX n 0 zN)) 0 0 n J 4 [some (.ref 6), some (zi s), some (zi k)] [] := by
    intro f9
    induction f9 with
    | zero => intro k s hm9; exact absurd hm9 (Nat.not_lt_zero _)
    | succ f9 ih4 =>
      intro k s hm4 hk hs
      refine tz_iload_n (pc := 4) dX9_unlikeShapes_4 rfl rfl ?_
      refine tz_aload_n (pc := 5) dX9_unlikeShapes_5 rfl rfl ?_
      refine tz_fI (pc := 6) (kz := 12) (v := m) dX9_unlikeShapes_6 fl_X9_45 i_6_12 rfl hm (fun r_6 => ?_)
      refine tz_icmp_ge (pc := 9) (tgt := 36) dX9_unlikeShapes_9 (by decide) (by omega) (by omega) (fun h_9 => ?_) (fun h_9 => ?_)
      · refine tz_iload_n (pc := 36) dX9_unlikeShapes_36 rfl rfl ?_
        exact tz_iret (pc := 37) (z := s) dX9_unlikeShapes_37 rfl (Nat.le_of_ble_eq_true rfl) (Nat.le_of_ble_eq_true rfl) ⟨Nat.le_refl _, Nat.le_add_right _ _⟩ ⟨_, rfl, (by omega), rfl⟩
      · refine tz_iload_n (pc := 12) dX9_unlikeShapes_12 rfl rfl ?_
        refine tz_aload_n (pc := 13) dX9_unlikeShapes_13 rfl rfl ?_
        refine tz_fR (pc := 14) dX9_unlikeShapes_14 fl_X9_33 r_6_8 ?_
        refine tz_iload_n (pc := 17) dX9_unlikeShapes_17 rfl rfl ?_
        refine tz_aL (pc := 18) (z := k) (v := (J 14 k)) dX9_unlikeShapes_18 a_14 rfl (by omega) rfl (fun r_18 => ?_)
        refine tz_iload_n (pc := 19) dX9_unlikeShapes_19 rfl rfl ?_
        have join28 : ∀ (e : Int), (-2147483648 ≤ e ∧ e < 2147483648) → (0 ≤ e ∧ e ≤ 1) → tz_At l G M_X9_unlikeShapes (tb_rm 0 0 0) none (tb_ZM G 0 0 (zQ n 0 (zqi (fun z J' => J = J'))) (zX n 0 zN)) 0 0 n J 28 [some (.ref 6), some (zi s), some (zi k)] (zi e :: zi s :: []) := by
          intro e hr_e
          intro hj_28
          refine tz_iadd (pc := 28) (v := s + e) dX9_unlikeShapes_28 rfl ?_
          refine tz_istore_n (pc := 29) (L2 := [_, _, _]) dX9_unlikeShapes_29 rfl (by decide) rfl ?_
          refine tz_iinc (pc := 30) (z := k + 1) (L2 := [_, _, _]) dX9_unlikeShapes_30 rfl (by omega) rfl ?_
          refine tz_goto (pc := 33) (tgt := 4) dX9_unlikeShapes_33 (by decide) ?_
          exact ih4 (k + 1) _ (by omega) (by omega) (by omega)
        refine tz_icmp_ne (pc := 20) (tgt := 27) dX9_unlikeShapes_20 (by decide) (by omega) (by omega) (fun h_20 => ?_) (fun h_20 => ?_)
        · refine tz_iconst (pc := 27) dX9_unlikeShapes_27 ?_
          exact join28 0 (by decide) (by omega)
        · refine tz_iconst (pc := 23) dX9_unlikeShapes_23 ?_
          refine tz_goto (pc := 24) (tgt := 28) dX9_unlikeShapes_24 (by decide) ?_
          exact join28 1 (by decide) (by omega)
  exact loop4 _ 0 _ (Nat.lt_succ_self _) (by omega) (by omega)

end
section
/-! a ledger's row f with m terms -/
def LI (f : Int → Int) (m : Int) : Prop := ((0 ≤ f 1 ∧ f 1 ≤ 9) ∧ (0 ≤ f 4 ∧ f 4 ≤ 8) ∧ (0 ≤ f 5 ∧ f 5 ≤ 12) ∧ (0 ≤ f 6 ∧ f 6 ≤ 9)) ∧ (∀ v, 0 ≤ v → v < 8 → -1 ≤ f (7 + v) ∧ f (7 + v) < m) ∧ (∀ i, 0 ≤ i → i < f 4 → (0 ≤ f (15 + i) ∧ f (15 + i) < m) ∧ (0 ≤ f (23 + i) ∧ f (23 + i) < m)) ∧ (∀ i, 0 ≤ i → i < f 5 → 0 ≤ f (31 + i) ∧ f (31 + i) < m) ∧ ∀ i, 0 ≤ i → i < f 6 → (0 ≤ f (43 + i) ∧ f (43 + i) < m) ∧ (0 ≤ f (52 + i) ∧ f (52 + i) < m)
theorem LI.mono {f : Int → Int} {m m' : Int} (h : LI f m) (hm : m ≤ m') : LI f m' := by
  obtain ⟨h1, h2, h3, h4, h5⟩ := h
  exact ⟨h1, fun v a b => by have := h2 v a b; omega, fun i a b => by have := h3 i a b; omega, fun i a b => by have := h4 i a b; omega, fun i a b => by have := h5 i a b; omega⟩
/-- one row of a cell moved down by one, from w to l -/
def zsh (J : zJ) (c : Nat) (b w l : Int) : zJ := fun c' => if c' = c then (fun k => if b + w ≤ k ∧ k < b + l then J c (k + 1) else J c k) else J c'
theorem zsh_0 {J : zJ} {c : Nat} {b w : Int} : zsh J c b w w = J := by
  funext c' k
  unfold zsh
  by_cases h : c' = c
  · subst h
    rw [if_pos rfl, if_neg (by omega)]
  · rw [if_neg h]
theorem zsh_s {J : zJ} {c : Nat} {b w i : Int} (h : w ≤ i) : zup (zsh J c b w i) c (b + i) (zsh J c b w i c (b + i + 1)) = zsh J c b w (i + 1) := by
  funext c' k
  unfold zup zsh
  by_cases h9 : c' = c
  · subst h9
    simp only [if_true]
    by_cases e : k = b + i
    · subst e
      rw [if_pos rfl, if_neg (by omega), if_pos (by omega)]
    · rw [if_neg e]
      by_cases g : b + w ≤ k ∧ k < b + i
      · rw [if_pos g, if_pos (by omega)]
      · rw [if_neg g, if_neg (by omega)]
  · rw [if_neg h9, if_neg h9, if_neg h9]
/-- the memo's two rows moved down by one, from w to l -/
def zdm (J : zJ) (w l : Int) : zJ := fun c' => if c' = 19 then (fun k => if (43 + w ≤ k ∧ k < 43 + l) ∨ (52 + w ≤ k ∧ k < 52 + l) then J 19 (k + 1) else J 19 k) else J c'
theorem zdm_0 {J : zJ} {w : Int} : zdm J w w = J := by
  funext c' k
  unfold zdm
  by_cases h : c' = 19
  · subst h
    rw [if_pos rfl, if_neg (by omega)]
  · rw [if_neg h]
theorem zdm_rd {J : zJ} {w i k : Int} (h : ¬ ((43 + w ≤ k ∧ k < 43 + i) ∨ (52 + w ≤ k ∧ k < 52 + i))) : zdm J w i 19 k = J 19 k := by
  unfold zdm
  rw [if_pos rfl, if_neg h]
theorem zdm_s {J : zJ} {w i : Int} (h : 0 ≤ w ∧ w ≤ i ∧ i < 8) : zup (zup (zdm J w i) 19 (43 + i) (zdm J w i 19 (43 + i + 1))) 19 (52 + i) (zdm J w i 19 (52 + i + 1)) = zdm J w (i + 1) := by
  rw [zdm_rd (k := 43 + i + 1) (by omega), zdm_rd (k := 52 + i + 1) (by omega)]
  funext c' k
  unfold zup zdm
  by_cases h9 : c' = 19
  · subst h9
    simp only [if_true]
    by_cases e : k = 52 + i
    · subst e
      rw [if_pos rfl, if_pos (by omega)]
    · rw [if_neg e]
      by_cases e2 : k = 43 + i
      · subst e2
        rw [if_pos rfl, if_pos (by omega)]
      · rw [if_neg e2]
        by_cases g : (43 + w ≤ k ∧ k < 43 + i) ∨ (52 + w ≤ k ∧ k < 52 + i)
        · rw [if_pos g, if_pos (by omega)]
        · rw [if_neg g, if_neg (by omega)]
  · rw [if_neg h9, if_neg h9, if_neg h9, if_neg h9]
def zdE (J : zJ) (w : Int) : zJ := zup (zsh J 19 31 w (J 19 5 - 1)) 19 5 (J 19 5 - 1)
def zdM (J : zJ) (w : Int) : zJ := zup (zdm J w (J 19 6 - 1)) 19 6 (J 19 6 - 1)
def zaM (J : zJ) (t a : Int) : zJ := if J 19 6 < 9 then zup (zup (zup J 19 (43 + J 19 6) t) 19 (52 + J 19 6) a) 19 6 (J 19 6 + 1) else J
def zaR (J : zJ) (x y : Int) : zJ := if J 19 4 < 8 then zup (zup (zup (zup J 19 (15 + J 19 4) x) 19 (23 + J 19 4) y) 19 4 (J 19 4 + 1)) 19 6 0 else J
def zaE (J : zJ) (t : Int) : zJ := if J 19 5 < 12 then zup (zup J 19 (31 + J 19 5) t) 19 5 (J 19 5 + 1) else J
def zrM (J : zJ) (t a : Int) : zJ := if J 19 1 = 0 then J else if J 19 6 ≥ J 19 1 then zaM (zdM J 0) t a else zaM J t a
set_option maxHeartbeats 4000000 in
set_option maxRecDepth 100000 in
theorem c_addRule {l : Launch} {G : tb_G} (hl : l.stackTraces = false) (n : Nat) (J : zJ) (x : Int) (y : Int) (hr_x : -2147483648 ≤ x ∧ x < 2147483648) (hr_y : -2147483648 ≤ y ∧ y < 2147483648)  (h0 : 0 ≤ J 19 4 ∧ J 19 4 ≤ 8) : tz_Ok l G M_X1_addRule 0 0 0 [.ref 18, zi x, zi y] n J (zqv (fun J' => zaR J x y = J')) zN := by
  refine tz_Ok.of hl (by decide +kernel) rfl (tb_c1 rfl) (Nat.le_of_ble_eq_true rfl) ?_
  show tz_At l G M_X1_addRule (tb_rm 0 0 0) none (tb_ZM G 0 0 (zQ n 0 (zqv (fun J' => zaR J x y = J'))) (zX n 0 zN)) 0 0 n J 0 [some (.ref 18), some (zi x), some (zi y), none] []
  refine tz_aload_n (pc := 0) dX1_addRule_0 rfl rfl ?_
  refine tz_fR (pc := 1) dX1_addRule_1 fl_X1_11 r_18_0 ?_
  refine tz_iconst (pc := 4) dX1_addRule_4 ?_
  refine tz_aL (pc := 5) (z := 4) (v := (J 19 4)) dX1_addRule_5 a_19 rfl (by decide) rfl (fun r_5 => ?_)
  refine tz_istore_n (pc := 6) (L2 := [_, _, _, _]) dX1_addRule_6 rfl (by decide) rfl ?_
  refine tz_iload_n (pc := 7) dX1_addRule_7 rfl rfl ?_
  refine tz_bipush (pc := 8) dX1_addRule_8 (by decide) ?_
  refine tz_icmp_ge (pc := 10) (tgt := 50) dX1_addRule_10 (by decide) (by omega) (by decide) (fun h_10 => ?_) (fun h_10 => ?_)
  · exact tz_vret (pc := 50) dX1_addRule_50 rfl (Nat.le_of_ble_eq_true rfl) (Nat.le_of_ble_eq_true rfl) ⟨Nat.le_refl _, Nat.le_add_right _ _⟩ ⟨rfl, (by unfold zaR; first | exact if_pos (by omega) | exact if_neg (by omega))⟩
  · refine tz_aload_n (pc := 13) dX1_addRule_13 rfl rfl ?_
    refine tz_fR (pc := 14) dX1_addRule_14 fl_X1_11 r_18_0 ?_
    refine tz_bipush (pc := 17) dX1_addRule_17 (by decide) ?_
    refine tz_iload_n (pc := 19) dX1_addRule_19 rfl rfl ?_
    refine tz_iadd (pc := 20) (v := 15 + (J 19 4)) dX1_addRule_20 rfl ?_
    refine tz_iload_n (pc := 21) dX1_addRule_21 rfl rfl ?_
    refine tz_aS (pc := 22) (z := (15 + (J 19 4))) dX1_addRule_22 a_19 rfl (by omega) (by omega) ?_
    refine tz_aload_n (pc := 23) dX1_addRule_23 rfl rfl ?_
    refine tz_fR (pc := 24) dX1_addRule_24 fl_X1_11 r_18_0 ?_
    refine tz_bipush (pc := 27) dX1_addRule_27 (by decide) ?_
    refine tz_iload_n (pc := 29) dX1_addRule_29 rfl rfl ?_
    refine tz_iadd (pc := 30) (v := 23 + (J 19 4)) dX1_addRule_30 rfl ?_
    refine tz_iload_n (pc := 31) dX1_addRule_31 rfl rfl ?_
    refine tz_aS (pc := 32) (z := (23 + (J 19 4))) dX1_addRule_32 a_19 rfl (by omega) (by omega) ?_
    refine tz_aload_n (pc := 33) dX1_addRule_33 rfl rfl ?_
    refine tz_fR (pc := 34) dX1_addRule_34 fl_X1_11 r_18_0 ?_
    refine tz_iconst (pc := 37) dX1_addRule_37 ?_
    refine tz_iload_n (pc := 38) dX1_addRule_38 rfl rfl ?_
    refine tz_iconst (pc := 39) dX1_addRule_39 ?_
    refine tz_iadd (pc := 40) (v := (J 19 4) + 1) dX1_addRule_40 rfl ?_
    refine tz_aS (pc := 41) (z := 4) dX1_addRule_41 a_19 rfl (by decide) (by omega) ?_
    refine tz_aload_n (pc := 42) dX1_addRule_42 rfl rfl ?_
    refine tz_fR (pc := 43) dX1_addRule_43 fl_X1_11 r_18_0 ?_
    refine tz_bipush (pc := 46) dX1_addRule_46 (by decide) ?_
    refine tz_iconst (pc := 48) dX1_addRule_48 ?_
    refine tz_aS (pc := 49) (z := 6) dX1_addRule_49 a_19 rfl (by decide) (by decide) ?_
    exact tz_vret (pc := 50) dX1_addRule_50 rfl (Nat.le_of_ble_eq_true rfl) (Nat.le_of_ble_eq_true rfl) ⟨Nat.le_refl _, Nat.le_add_right _ _⟩ ⟨rfl, (by unfold zaR; first | exact if_pos (by omega) | exact if_neg (by omega))⟩

set_option maxHeartbeats 4000000 in
set_option maxRecDepth 100000 in
theorem c_tellRoom {l : Launch} {G : tb_G} (hl : l.stackTraces = false) (n : Nat) (J : zJ) (x : Int) (hr_x : -2147483648 ≤ x ∧ x < 2147483648)   : tz_Ok l G M_X1_tellRoom 0 0 0 [.ref 18, zi x] n J (zqv (fun J' => zup (zup J 19 1 x) 19 6 0 = J')) zN := by
  refine tz_Ok.of hl (by decide +kernel) rfl (tb_c1 rfl) (Nat.le_of_ble_eq_true rfl) ?_
  show tz_At l G M_X1_tellRoom (tb_rm 0 0 0) none (tb_ZM G 0 0 (zQ n 0 (zqv (fun J' => zup (zup J 19 1 x) 19 6 0 = J'))) (zX n 0 zN)) 0 0 n J 0 [some (.ref 18), some (zi x)] []
  refine tz_aload_n (pc := 0) dX1_tellRoom_0 rfl rfl ?_
  refine tz_fR (pc := 1) dX1_tellRoom_1 fl_X1_11 r_18_0 ?_
  refine tz_iconst (pc := 4) dX1_tellRoom_4 ?_
  refine tz_iload_n (pc := 5) dX1_tellRoom_5 rfl rfl ?_
  refine tz_aS (pc := 6) (z := 1) dX1_tellRoom_6 a_19 rfl (by decide) (by omega) ?_
  refine tz_aload_n (pc := 7) dX1_tellRoom_7 rfl rfl ?_
  refine tz_fR (pc := 8) dX1_tellRoom_8 fl_X1_11 r_18_0 ?_
  refine tz_bipush (pc := 11) dX1_tellRoom_11 (by decide) ?_
  refine tz_iconst (pc := 13) dX1_tellRoom_13 ?_
  refine tz_aS (pc := 14) (z := 6) dX1_tellRoom_14 a_19 rfl (by decide) (by decide) ?_
  exact tz_vret (pc := 15) dX1_tellRoom_15 rfl (Nat.le_of_ble_eq_true rfl) (Nat.le_of_ble_eq_true rfl) ⟨Nat.le_refl _, Nat.le_add_right _ _⟩ ⟨rfl, rfl⟩

set_option maxHeartbeats 4000000 in
set_option maxRecDepth 100000 in
theorem c_addEntry {l : Launch} {G : tb_G} (hl : l.stackTraces = false) (n : Nat) (J : zJ) (x : Int) (hr_x : -2147483648 ≤ x ∧ x < 2147483648)  (h0 : 0 ≤ J 19 5 ∧ J 19 5 ≤ 12) : tz_Ok l G M_X1_addEntry 0 0 0 [.ref 18, zi x] n J (zqv (fun J' => zaE J x = J')) zN := by
  refine tz_Ok.of hl (by decide +kernel) rfl (tb_c1 rfl) (Nat.le_of_ble_eq_true rfl) ?_
  show tz_At l G M_X1_addEntry (tb_rm 0 0 0) none (tb_ZM G 0 0 (zQ n 0 (zqv (fun J' => zaE J x = J'))) (zX n 0 zN)) 0 0 n J 0 [some (.ref 18), some (zi x), none] []
  refine tz_aload_n (pc := 0) dX1_addEntry_0 rfl rfl ?_
  refine tz_fR (pc := 1) dX1_addEntry_1 fl_X1_11 r_18_0 ?_
  refine tz_iconst (pc := 4) dX1_addEntry_4 ?_
  refine tz_aL (pc := 5) (z := 5) (v := (J 19 5)) dX1_addEntry_5 a_19 rfl (by decide) rfl (fun r_5 => ?_)
  refine tz_istore_n (pc := 6) (L2 := [_, _, _]) dX1_addEntry_6 rfl (by decide) rfl ?_
  refine tz_iload_n (pc := 7) dX1_addEntry_7 rfl rfl ?_
  refine tz_bipush (pc := 8) dX1_addEntry_8 (by decide) ?_
  refine tz_icmp_ge (pc := 10) (tgt := 32) dX1_addEntry_10 (by decide) (by omega) (by decide) (fun h_10 => ?_) (fun h_10 => ?_)
  · exact tz_vret (pc := 32) dX1_addEntry_32 rfl (Nat.le_of_ble_eq_true rfl) (Nat.le_of_ble_eq_true rfl) ⟨Nat.le_refl _, Nat.le_add_right _ _⟩ ⟨rfl, (by unfold zaE; first | exact if_pos (by omega) | exact if_neg (by omega))⟩
  · refine tz_aload_n (pc := 13) dX1_addEntry_13 rfl rfl ?_
    refine tz_fR (pc := 14) dX1_addEntry_14 fl_X1_11 r_18_0 ?_
    refine tz_bipush (pc := 17) dX1_addEntry_17 (by decide) ?_
    refine tz_iload_n (pc := 19) dX1_addEntry_19 rfl rfl ?_
    refine tz_iadd (pc := 20) (v := 31 + (J 19 5)) dX1_addEntry_20 rfl ?_
    refine tz_iload_n (pc := 21) dX1_addEntry_21 rfl rfl ?_
    refine tz_aS (pc := 22) (z := (31 + (J 19 5))) dX1_addEntry_22 a_19 rfl (by omega) (by omega) ?_
    refine tz_aload_n (pc := 23) dX1_addEntry_23 rfl rfl ?_
    refine tz_fR (pc := 24) dX1_addEntry_24 fl_X1_11 r_18_0 ?_
    refine tz_iconst (pc := 27) dX1_addEntry_27 ?_
    refine tz_iload_n (pc := 28) dX1_addEntry_28 rfl rfl ?_
    refine tz_iconst (pc := 29) dX1_addEntry_29 ?_
    refine tz_iadd (pc := 30) (v := (J 19 5) + 1) dX1_addEntry_30 rfl ?_
    refine tz_aS (pc := 31) (z := 5) dX1_addEntry_31 a_19 rfl (by decide) (by omega) ?_
    exact tz_vret (pc := 32) dX1_addEntry_32 rfl (Nat.le_of_ble_eq_true rfl) (Nat.le_of_ble_eq_true rfl) ⟨Nat.le_refl _, Nat.le_add_right _ _⟩ ⟨rfl, (by unfold zaE; first | exact if_pos (by omega) | exact if_neg (by omega))⟩

set_option maxHeartbeats 4000000 in
set_option maxRecDepth 100000 in
theorem c_addMemo {l : Launch} {G : tb_G} (hl : l.stackTraces = false) (n : Nat) (J : zJ) (x : Int) (y : Int) (hr_x : -2147483648 ≤ x ∧ x < 2147483648) (hr_y : -2147483648 ≤ y ∧ y < 2147483648)  (h0 : 0 ≤ J 19 6 ∧ J 19 6 ≤ 9) : tz_Ok l G M_X1_addMemo 0 0 0 [.ref 18, zi x, zi y] n J (zqv (fun J' => zaM J x y = J')) zN := by
  refine tz_Ok.of hl (by decide +kernel) rfl (tb_c1 rfl) (Nat.le_of_ble_eq_true rfl) ?_
  show tz_At l G M_X1_addMemo (tb_rm 0 0 0) none (tb_ZM G 0 0 (zQ n 0 (zqv (fun J' => zaM J x y = J'))) (zX n 0 zN)) 0 0 n J 0 [some (.ref 18), some (zi x), some (zi y), none] []
  refine tz_aload_n (pc := 0) dX1_addMemo_0 rfl rfl ?_
  refine tz_fR (pc := 1) dX1_addMemo_1 fl_X1_11 r_18_0 ?_
  refine tz_bipush (pc := 4) dX1_addMemo_4 (by decide) ?_
  refine tz_aL (pc := 6) (z := 6) (v := (J 19 6)) dX1_addMemo_6 a_19 rfl (by decide) rfl (fun r_6 => ?_)
  refine tz_istore_n (pc := 7) (L2 := [_, _, _, _]) dX1_addMemo_7 rfl (by decide) rfl ?_
  refine tz_iload_n (pc := 8) dX1_addMemo_8 rfl rfl ?_
  refine tz_bipush (pc := 9) dX1_addMemo_9 (by decide) ?_
  refine tz_icmp_ge (pc := 11) (tgt := 44) dX1_addMemo_11 (by decide) (by omega) (by decide) (fun h_11 => ?_) (fun h_11 => ?_)
  · exact tz_vret (pc := 44) dX1_addMemo_44 rfl (Nat.le_of_ble_eq_true rfl) (Nat.le_of_ble_eq_true rfl) ⟨Nat.le_refl _, Nat.le_add_right _ _⟩ ⟨rfl, (by unfold zaM; first | exact if_pos (by omega) | exact if_neg (by omega))⟩
  · refine tz_aload_n (pc := 14) dX1_addMemo_14 rfl rfl ?_
    refine tz_fR (pc := 15) dX1_addMemo_15 fl_X1_11 r_18_0 ?_
    refine tz_bipush (pc := 18) dX1_addMemo_18 (by decide) ?_
    refine tz_iload_n (pc := 20) dX1_addMemo_20 rfl rfl ?_
    refine tz_iadd (pc := 21) (v := 43 + (J 19 6)) dX1_addMemo_21 rfl ?_
    refine tz_iload_n (pc := 22) dX1_addMemo_22 rfl rfl ?_
    refine tz_aS (pc := 23) (z := (43 + (J 19 6))) dX1_addMemo_23 a_19 rfl (by omega) (by omega) ?_
    refine tz_aload_n (pc := 24) dX1_addMemo_24 rfl rfl ?_
    refine tz_fR (pc := 25) dX1_addMemo_25 fl_X1_11 r_18_0 ?_
    refine tz_bipush (pc := 28) dX1_addMemo_28 (by decide) ?_
    refine tz_iload_n (pc := 30) dX1_addMemo_30 rfl rfl ?_
    refine tz_iadd (pc := 31) (v := 52 + (J 19 6)) dX1_addMemo_31 rfl ?_
    refine tz_iload_n (pc := 32) dX1_addMemo_32 rfl rfl ?_
    refine tz_aS (pc := 33) (z := (52 + (J 19 6))) dX1_addMemo_33 a_19 rfl (by omega) (by omega) ?_
    refine tz_aload_n (pc := 34) dX1_addMemo_34 rfl rfl ?_
    refine tz_fR (pc := 35) dX1_addMemo_35 fl_X1_11 r_18_0 ?_
    refine tz_bipush (pc := 38) dX1_addMemo_38 (by decide) ?_
    refine tz_iload_n (pc := 40) dX1_addMemo_40 rfl rfl ?_
    refine tz_iconst (pc := 41) dX1_addMemo_41 ?_
    refine tz_iadd (pc := 42) (v := (J 19 6) + 1) dX1_addMemo_42 rfl ?_
    refine tz_aS (pc := 43) (z := 6) dX1_addMemo_43 a_19 rfl (by decide) (by omega) ?_
    exact tz_vret (pc := 44) dX1_addMemo_44 rfl (Nat.le_of_ble_eq_true rfl) (Nat.le_of_ble_eq_true rfl) ⟨Nat.le_refl _, Nat.le_add_right _ _⟩ ⟨rfl, (by unfold zaM; first | exact if_pos (by omega) | exact if_neg (by omega))⟩

set_option maxHeartbeats 4000000 in
set_option maxRecDepth 100000 in
theorem c_entryOf {l : Launch} {G : tb_G} (hl : l.stackTraces = false) (n : Nat) (J : zJ) (t : Int) (hr_t : -2147483648 ≤ t ∧ t < 2147483648)  (h0 : 0 ≤ J 19 5 ∧ J 19 5 ≤ 12) : tz_Ok l G M_X1_entryOf 0 0 0 [.ref 18, zi t] n J (zqi (fun z J' => J = J' ∧ ((0 ≤ z ∧ z < J 19 5 ∧ J 19 (31 + z) = t ∧ ∀ i, 0 ≤ i → i < z → ¬ J 19 (31 + i) = t) ∨ (z = -1 ∧ ∀ i, 0 ≤ i → i < J 19 5 → ¬ J 19 (31 + i) = t)))) zN := by
  refine tz_Ok.of hl (by decide +kernel) rfl (tb_c1 rfl) (Nat.le_of_ble_eq_true rfl) ?_
  show tz_At l G M_X1_entryOf (tb_rm 0 0 0) none (tb_ZM G 0 0 (zQ n 0 (zqi (fun z J' => J = J' ∧ ((0 ≤ z ∧ z < J 19 5 ∧ J 19 (31 + z) = t ∧ ∀ i, 0 ≤ i → i < z → ¬ J 19 (31 + i) = t) ∨ (z = -1 ∧ ∀ i, 0 ≤ i → i < J 19 5 → ¬ J 19 (31 + i) = t))))) (zX n 0 zN)) 0 0 n J 0 [some (.ref 18), some (zi t), none] []
  refine tz_iconst (pc := 0) dX1_entryOf_0 ?_
  refine tz_istore_n (pc := 1) (L2 := [_, _, _]) dX1_entryOf_1 rfl (by decide) rfl ?_
  have loop2 : ∀ (f9 : Nat) (i : Int), ((J 19 5 - i).toNat) < f9 → (0 ≤ i ∧ i ≤ J 19 5) → (∀ q, 0 ≤ q → q < i → ¬ J 19 (31 + q) = t) → tz_At l G M_X1_entryOf (tb_rm 0 0 0) none (tb_ZM G 0 0 (zQ n 0 (zqi (fun z J' => J = J' ∧ ((0 ≤ z ∧ z < J 19 5 ∧ J 19 (31 + z) = t ∧ ∀ i, 0 ≤ i → i < z → ¬ J 19 (31 + i) = t) ∨ (z = -1 ∧ ∀ i, 0 ≤ i → i < J 19 5 → ¬ J 19 (31 + i) = t))))) (zX n 0 zN)) 0 0 n J 2 [some (.ref 18), some (zi t), some (zi i)] [] := by
    intro f9
    induction f9 with
    | zero => intro i hm9; exact absurd hm9 (Nat.not_lt_zero _)
    | succ f9 ih2 =>
      intro i hm2 hi hn
      refine tz_iload_n (pc := 2) dX1_entryOf_2 rfl rfl ?_
      refine tz_aload_n (pc := 3) dX1_entryOf_3 rfl rfl ?_
      refine tz_fR (pc := 4) dX1_entryOf_4 fl_X1_11 r_18_0 ?_
      refine tz_iconst (pc := 7) dX1_entryOf_7 ?_
      refine tz_aL (pc := 8) (z := 5) (v := (J 19 5)) dX1_entryOf_8 a_19 rfl (by decide) rfl (fun r_8 => ?_)
      refine tz_icmp_ge (pc := 9) (tgt := 33) dX1_entryOf_9 (by decide) (by omega) (by omega) (fun h_9 => ?_) (fun h_9 => ?_)
      · refine tz_iconst (pc := 33) dX1_entryOf_33 ?_
        exact tz_iret (pc := 34) (z := (-1)) dX1_entryOf_34 rfl (Nat.le_of_ble_eq_true rfl) (Nat.le_of_ble_eq_true rfl) ⟨Nat.le_refl _, Nat.le_add_right _ _⟩ ⟨_, rfl, (by decide), ⟨rfl, by first | exact Or.inl ⟨by omega, by omega, by omega, hn⟩ | exact Or.inr ⟨rfl, fun q a b => hn q a (by omega)⟩⟩⟩
      · refine tz_aload_n (pc := 12) dX1_entryOf_12 rfl rfl ?_
        refine tz_fR (pc := 13) dX1_entryOf_13 fl_X1_11 r_18_0 ?_
        refine tz_bipush (pc := 16) dX1_entryOf_16 (by decide) ?_
        refine tz_iload_n (pc := 18) dX1_entryOf_18 rfl rfl ?_
        refine tz_iadd (pc := 19) (v := 31 + i) dX1_entryOf_19 rfl ?_
        refine tz_aL (pc := 20) (z := (31 + i)) (v := (J 19 (31 + i))) dX1_entryOf_20 a_19 rfl (by omega) rfl (fun r_20 => ?_)
        refine tz_iload_n (pc := 21) dX1_entryOf_21 rfl rfl ?_
        refine tz_icmp_ne (pc := 22) (tgt := 27) dX1_entryOf_22 (by decide) (by omega) (by omega) (fun h_22 => ?_) (fun h_22 => ?_)
        · refine tz_iinc (pc := 27) (z := i + 1) (L2 := [_, _, _]) dX1_entryOf_27 rfl (by omega) rfl ?_
          refine tz_goto (pc := 30) (tgt := 2) dX1_entryOf_30 (by decide) ?_
          exact ih2 (i + 1) (by omega) (by omega) (fun q a b => (Decidable.em (q = i)).elim (fun e => by rw [e]; omega) (fun e => hn q a (by omega)))
        · refine tz_iload_n (pc := 25) dX1_entryOf_25 rfl rfl ?_
          exact tz_iret (pc := 26) (z := i) dX1_entryOf_26 rfl (Nat.le_of_ble_eq_true rfl) (Nat.le_of_ble_eq_true rfl) ⟨Nat.le_refl _, Nat.le_add_right _ _⟩ ⟨_, rfl, (by omega), ⟨rfl, by first | exact Or.inl ⟨by omega, by omega, by omega, hn⟩ | exact Or.inr ⟨rfl, fun q a b => hn q a (by omega)⟩⟩⟩
  exact loop2 _ 0 (Nat.lt_succ_self _) (by omega) (fun q a b => by omega)

set_option maxHeartbeats 4000000 in
set_option maxRecDepth 100000 in
theorem c_named {l : Launch} {G : tb_G} (hl : l.stackTraces = false) (n : Nat) (J : zJ) (t : Int) (hr_t : -2147483648 ≤ t ∧ t < 2147483648)  (h0 : 0 ≤ J 1 3 ∧ J 1 3 ≤ 10) : tz_Ok l G M_X8_named 0 0 0 [.ref 1, zi t] n J (zqi (fun z J' => J = J' ∧ ((0 ≤ z ∧ z < J 1 3 ∧ J 2 z = t ∧ ∀ i, 0 ≤ i → i < z → ¬ J 2 i = t) ∨ (z = -1 ∧ ∀ i, 0 ≤ i → i < J 1 3 → ¬ J 2 i = t)))) zN := by
  refine tz_Ok.of hl (by decide +kernel) rfl (tb_c1 rfl) (Nat.le_of_ble_eq_true rfl) ?_
  show tz_At l G M_X8_named (tb_rm 0 0 0) none (tb_ZM G 0 0 (zQ n 0 (zqi (fun z J' => J = J' ∧ ((0 ≤ z ∧ z < J 1 3 ∧ J 2 z = t ∧ ∀ i, 0 ≤ i → i < z → ¬ J 2 i = t) ∨ (z = -1 ∧ ∀ i, 0 ≤ i → i < J 1 3 → ¬ J 2 i = t))))) (zX n 0 zN)) 0 0 n J 0 [some (.ref 1), some (zi t), none] []
  refine tz_iconst (pc := 0) dX8_named_0 ?_
  refine tz_istore_n (pc := 1) (L2 := [_, _, _]) dX8_named_1 rfl (by decide) rfl ?_
  have loop2 : ∀ (f9 : Nat) (i : Int), ((J 1 3 - i).toNat) < f9 → (0 ≤ i ∧ i ≤ J 1 3) → (∀ q, 0 ≤ q → q < i → ¬ J 2 q = t) → tz_At l G M_X8_named (tb_rm 0 0 0) none (tb_ZM G 0 0 (zQ n 0 (zqi (fun z J' => J = J' ∧ ((0 ≤ z ∧ z < J 1 3 ∧ J 2 z = t ∧ ∀ i, 0 ≤ i → i < z → ¬ J 2 i = t) ∨ (z = -1 ∧ ∀ i, 0 ≤ i → i < J 1 3 → ¬ J 2 i = t))))) (zX n 0 zN)) 0 0 n J 2 [some (.ref 1), some (zi t), some (zi i)] [] := by
    intro f9
    induction f9 with
    | zero => intro i hm9; exact absurd hm9 (Nat.not_lt_zero _)
    | succ f9 ih2 =>
      intro i hm2 hi hn
      refine tz_iload_n (pc := 2) dX8_named_2 rfl rfl ?_
      refine tz_aload_n (pc := 3) dX8_named_3 rfl rfl ?_
      refine tz_fI (pc := 4) (kz := 3) (v := (J 1 3)) dX8_named_4 fl_X8_21 i_1_3 rfl rfl (fun r_4 => ?_)
      refine tz_icmp_ge (pc := 7) (tgt := 28) dX8_named_7 (by decide) (by omega) (by omega) (fun h_7 => ?_) (fun h_7 => ?_)
      · refine tz_iconst (pc := 28) dX8_named_28 ?_
        exact tz_iret (pc := 29) (z := (-1)) dX8_named_29 rfl (Nat.le_of_ble_eq_true rfl) (Nat.le_of_ble_eq_true rfl) ⟨Nat.le_refl _, Nat.le_add_right _ _⟩ ⟨_, rfl, (by decide), ⟨rfl, by first | exact Or.inl ⟨by omega, by omega, by omega, hn⟩ | exact Or.inr ⟨rfl, fun q a b => hn q a (by omega)⟩⟩⟩
      · refine tz_aload_n (pc := 10) dX8_named_10 rfl rfl ?_
        refine tz_fR (pc := 11) dX8_named_11 fl_X8_9 r_1_0 ?_
        refine tz_iload_n (pc := 14) dX8_named_14 rfl rfl ?_
        refine tz_aL (pc := 15) (z := i) (v := (J 2 i)) dX8_named_15 a_2 rfl (by omega) rfl (fun r_15 => ?_)
        refine tz_iload_n (pc := 16) dX8_named_16 rfl rfl ?_
        refine tz_icmp_ne (pc := 17) (tgt := 22) dX8_named_17 (by decide) (by omega) (by omega) (fun h_17 => ?_) (fun h_17 => ?_)
        · refine tz_iinc (pc := 22) (z := i + 1) (L2 := [_, _, _]) dX8_named_22 rfl (by omega) rfl ?_
          refine tz_goto (pc := 25) (tgt := 2) dX8_named_25 (by decide) ?_
          exact ih2 (i + 1) (by omega) (by omega) (fun q a b => (Decidable.em (q = i)).elim (fun e => by rw [e]; omega) (fun e => hn q a (by omega)))
        · refine tz_iload_n (pc := 20) dX8_named_20 rfl rfl ?_
          exact tz_iret (pc := 21) (z := i) dX8_named_21 rfl (Nat.le_of_ble_eq_true rfl) (Nat.le_of_ble_eq_true rfl) ⟨Nat.le_refl _, Nat.le_add_right _ _⟩ ⟨_, rfl, (by omega), ⟨rfl, by first | exact Or.inl ⟨by omega, by omega, by omega, hn⟩ | exact Or.inr ⟨rfl, fun q a b => hn q a (by omega)⟩⟩⟩
  exact loop2 _ 0 (Nat.lt_succ_self _) (by omega) (fun q a b => by omega)

set_option maxHeartbeats 4000000 in
set_option maxRecDepth 100000 in
theorem c_dropEntry {l : Launch} {G : tb_G} (hl : l.stackTraces = false) (n : Nat) (J : zJ) (x : Int) (hr_x : -2147483648 ≤ x ∧ x < 2147483648)  (h0 : 0 ≤ x ∧ x < J 19 5) (h1 : J 19 5 ≤ 12) : tz_Ok l G M_X1_dropEntry 0 0 0 [.ref 18, zi x] n J (zqv (fun J' => zdE J x = J')) zN := by
  refine tz_Ok.of hl (by decide +kernel) rfl (tb_c1 rfl) (Nat.le_of_ble_eq_true rfl) ?_
  show tz_At l G M_X1_dropEntry (tb_rm 0 0 0) none (tb_ZM G 0 0 (zQ n 0 (zqv (fun J' => zdE J x = J'))) (zX n 0 zN)) 0 0 n J 0 [some (.ref 18), some (zi x), none, none] []
  refine tz_aload_n (pc := 0) dX1_dropEntry_0 rfl rfl ?_
  refine tz_fR (pc := 1) dX1_dropEntry_1 fl_X1_11 r_18_0 ?_
  refine tz_iconst (pc := 4) dX1_dropEntry_4 ?_
  refine tz_aL (pc := 5) (z := 5) (v := (J 19 5)) dX1_dropEntry_5 a_19 rfl (by decide) rfl (fun r_5 => ?_)
  refine tz_iconst (pc := 6) dX1_dropEntry_6 ?_
  refine tz_isub (pc := 7) (v := (J 19 5) - 1) dX1_dropEntry_7 rfl ?_
  refine tz_istore_n (pc := 8) (L2 := [_, _, _, _]) dX1_dropEntry_8 rfl (by decide) rfl ?_
  refine tz_iload_n (pc := 9) dX1_dropEntry_9 rfl rfl ?_
  refine tz_istore_n (pc := 10) (L2 := [_, _, _, _]) dX1_dropEntry_10 rfl (by decide) rfl ?_
  have loop11 : ∀ (f9 : Nat) (i : Int) (J1 : zJ), ((J 19 5 - i).toNat) < f9 → (x ≤ i ∧ i ≤ J 19 5 - 1) → (zOf (zbut [19]) J1 J) → (J1 = zsh J 19 31 x i) → tz_At l G M_X1_dropEntry (tb_rm 0 0 0) none (tb_ZM G 0 0 (zQ n 0 (zqv (fun J' => zdE J x = J'))) (zX n 0 zN)) 0 0 n J1 11 [some (.ref 18), some (zi x), some (zi ((J 19 5) - 1)), some (zi i)] [] := by
    intro f9
    induction f9 with
    | zero => intro i J1 hm9; exact absurd hm9 (Nat.not_lt_zero _)
    | succ f9 ih11 =>
      intro i J1 hm11 hi fr e1
      refine tz_iload_n (pc := 11) dX1_dropEntry_11 rfl rfl ?_
      refine tz_iload_n (pc := 12) dX1_dropEntry_12 rfl rfl ?_
      refine tz_icmp_ge (pc := 13) (tgt := 42) dX1_dropEntry_13 (by decide) (by omega) (by omega) (fun h_13 => ?_) (fun h_13 => ?_)
      · refine tz_aload_n (pc := 42) dX1_dropEntry_42 rfl rfl ?_
        refine tz_fR (pc := 43) dX1_dropEntry_43 fl_X1_11 r_18_0 ?_
        refine tz_iconst (pc := 46) dX1_dropEntry_46 ?_
        refine tz_iload_n (pc := 47) dX1_dropEntry_47 rfl rfl ?_
        refine tz_aS (pc := 48) (z := 5) dX1_dropEntry_48 a_19 rfl (by decide) (by omega) ?_
        exact tz_vret (pc := 49) dX1_dropEntry_49 rfl (Nat.le_of_ble_eq_true rfl) (Nat.le_of_ble_eq_true rfl) ⟨Nat.le_refl _, Nat.le_add_right _ _⟩ ⟨rfl, (by rw [e1, show i = J 19 5 - 1 by omega]; rfl)⟩
      · refine tz_aload_n (pc := 16) dX1_dropEntry_16 rfl rfl ?_
        refine tz_fR (pc := 17) dX1_dropEntry_17 fl_X1_11 r_18_0 ?_
        refine tz_bipush (pc := 20) dX1_dropEntry_20 (by decide) ?_
        refine tz_iload_n (pc := 22) dX1_dropEntry_22 rfl rfl ?_
        refine tz_iadd (pc := 23) (v := 31 + i) dX1_dropEntry_23 rfl ?_
        refine tz_aload_n (pc := 24) dX1_dropEntry_24 rfl rfl ?_
        refine tz_fR (pc := 25) dX1_dropEntry_25 fl_X1_11 r_18_0 ?_
        refine tz_bipush (pc := 28) dX1_dropEntry_28 (by decide) ?_
        refine tz_iload_n (pc := 30) dX1_dropEntry_30 rfl rfl ?_
        refine tz_iadd (pc := 31) (v := 31 + i) dX1_dropEntry_31 rfl ?_
        refine tz_iconst (pc := 32) dX1_dropEntry_32 ?_
        refine tz_iadd (pc := 33) (v := (31 + i) + 1) dX1_dropEntry_33 rfl ?_
        refine tz_aL (pc := 34) (z := ((31 + i) + 1)) (v := (J1 19 ((31 + i) + 1))) dX1_dropEntry_34 a_19 rfl (by omega) rfl (fun r_34 => ?_)
        refine tz_aS (pc := 35) (z := (31 + i)) dX1_dropEntry_35 a_19 rfl (by omega) (by omega) ?_
        refine tz_iinc (pc := 36) (z := i + 1) (L2 := [_, _, _, _]) dX1_dropEntry_36 rfl (by omega) rfl ?_
        refine tz_goto (pc := 39) (tgt := 11) dX1_dropEntry_39 (by decide) ?_
        exact ih11 (i + 1) _ (by omega) (by omega) (zOf.up rfl fr) (by rw [e1]; exact zsh_s (by omega))
  exact loop11 _ _ _ (Nat.lt_succ_self _) (by omega) zOf.rf zsh_0.symm

set_option maxHeartbeats 4000000 in
set_option maxRecDepth 100000 in
theorem c_dropMemo {l : Launch} {G : tb_G} (hl : l.stackTraces = false) (n : Nat) (J : zJ) (x : Int) (hr_x : -2147483648 ≤ x ∧ x < 2147483648)  (h0 : 0 ≤ x ∧ x < J 19 6) (h1 : J 19 6 ≤ 9) : tz_Ok l G M_X1_dropMemo 0 0 0 [.ref 18, zi x] n J (zqv (fun J' => zdM J x = J')) zN := by
  refine tz_Ok.of hl (by decide +kernel) rfl (tb_c1 rfl) (Nat.le_of_ble_eq_true rfl) ?_
  show tz_At l G M_X1_dropMemo (tb_rm 0 0 0) none (tb_ZM G 0 0 (zQ n 0 (zqv (fun J' => zdM J x = J'))) (zX n 0 zN)) 0 0 n J 0 [some (.ref 18), some (zi x), none, none] []
  refine tz_aload_n (pc := 0) dX1_dropMemo_0 rfl rfl ?_
  refine tz_fR (pc := 1) dX1_dropMemo_1 fl_X1_11 r_18_0 ?_
  refine tz_bipush (pc := 4) dX1_dropMemo_4 (by decide) ?_
  refine tz_aL (pc := 6) (z := 6) (v := (J 19 6)) dX1_dropMemo_6 a_19 rfl (by decide) rfl (fun r_6 => ?_)
  refine tz_iconst (pc := 7) dX1_dropMemo_7 ?_
  refine tz_isub (pc := 8) (v := (J 19 6) - 1) dX1_dropMemo_8 rfl ?_
  refine tz_istore_n (pc := 9) (L2 := [_, _, _, _]) dX1_dropMemo_9 rfl (by decide) rfl ?_
  refine tz_iload_n (pc := 10) dX1_dropMemo_10 rfl rfl ?_
  refine tz_istore_n (pc := 11) (L2 := [_, _, _, _]) dX1_dropMemo_11 rfl (by decide) rfl ?_
  have loop12 : ∀ (f9 : Nat) (i : Int) (J1 : zJ), ((J 19 6 - i).toNat) < f9 → (x ≤ i ∧ i ≤ J 19 6 - 1) → (zOf (zbut [19]) J1 J) → (J1 = zdm J x i) → tz_At l G M_X1_dropMemo (tb_rm 0 0 0) none (tb_ZM G 0 0 (zQ n 0 (zqv (fun J' => zdM J x = J'))) (zX n 0 zN)) 0 0 n J1 12 [some (.ref 18), some (zi x), some (zi ((J 19 6) - 1)), some (zi i)] [] := by
    intro f9
    induction f9 with
    | zero => intro i J1 hm9; exact absurd hm9 (Nat.not_lt_zero _)
    | succ f9 ih12 =>
      intro i J1 hm12 hi fr e1
      refine tz_iload_n (pc := 12) dX1_dropMemo_12 rfl rfl ?_
      refine tz_iload_n (pc := 13) dX1_dropMemo_13 rfl rfl ?_
      refine tz_icmp_ge (pc := 14) (tgt := 63) dX1_dropMemo_14 (by decide) (by omega) (by omega) (fun h_14 => ?_) (fun h_14 => ?_)
      · refine tz_aload_n (pc := 63) dX1_dropMemo_63 rfl rfl ?_
        refine tz_fR (pc := 64) dX1_dropMemo_64 fl_X1_11 r_18_0 ?_
        refine tz_bipush (pc := 67) dX1_dropMemo_67 (by decide) ?_
        refine tz_iload_n (pc := 69) dX1_dropMemo_69 rfl rfl ?_
        refine tz_aS (pc := 70) (z := 6) dX1_dropMemo_70 a_19 rfl (by decide) (by omega) ?_
        exact tz_vret (pc := 71) dX1_dropMemo_71 rfl (Nat.le_of_ble_eq_true rfl) (Nat.le_of_ble_eq_true rfl) ⟨Nat.le_refl _, Nat.le_add_right _ _⟩ ⟨rfl, (by rw [e1, show i = J 19 6 - 1 by omega]; rfl)⟩
      · refine tz_aload_n (pc := 17) dX1_dropMemo_17 rfl rfl ?_
        refine tz_fR (pc := 18) dX1_dropMemo_18 fl_X1_11 r_18_0 ?_
        refine tz_bipush (pc := 21) dX1_dropMemo_21 (by decide) ?_
        refine tz_iload_n (pc := 23) dX1_dropMemo_23 rfl rfl ?_
        refine tz_iadd (pc := 24) (v := 43 + i) dX1_dropMemo_24 rfl ?_
        refine tz_aload_n (pc := 25) dX1_dropMemo_25 rfl rfl ?_
        refine tz_fR (pc := 26) dX1_dropMemo_26 fl_X1_11 r_18_0 ?_
        refine tz_bipush (pc := 29) dX1_dropMemo_29 (by decide) ?_
        refine tz_iload_n (pc := 31) dX1_dropMemo_31 rfl rfl ?_
        refine tz_iadd (pc := 32) (v := 43 + i) dX1_dropMemo_32 rfl ?_
        refine tz_iconst (pc := 33) dX1_dropMemo_33 ?_
        refine tz_iadd (pc := 34) (v := (43 + i) + 1) dX1_dropMemo_34 rfl ?_
        refine tz_aL (pc := 35) (z := ((43 + i) + 1)) (v := (J1 19 ((43 + i) + 1))) dX1_dropMemo_35 a_19 rfl (by omega) rfl (fun r_35 => ?_)
        refine tz_aS (pc := 36) (z := (43 + i)) dX1_dropMemo_36 a_19 rfl (by omega) (by omega) ?_
        refine tz_aload_n (pc := 37) dX1_dropMemo_37 rfl rfl ?_
        refine tz_fR (pc := 38) dX1_dropMemo_38 fl_X1_11 r_18_0 ?_
        refine tz_bipush (pc := 41) dX1_dropMemo_41 (by decide) ?_
        refine tz_iload_n (pc := 43) dX1_dropMemo_43 rfl rfl ?_
        refine tz_iadd (pc := 44) (v := 52 + i) dX1_dropMemo_44 rfl ?_
        refine tz_aload_n (pc := 45) dX1_dropMemo_45 rfl rfl ?_
        refine tz_fR (pc := 46) dX1_dropMemo_46 fl_X1_11 r_18_0 ?_
        refine tz_bipush (pc := 49) dX1_dropMemo_49 (by decide) ?_
        refine tz_iload_n (pc := 51) dX1_dropMemo_51 rfl rfl ?_
        refine tz_iadd (pc := 52) (v := 52 + i) dX1_dropMemo_52 rfl ?_
        refine tz_iconst (pc := 53) dX1_dropMemo_53 ?_
        refine tz_iadd (pc := 54) (v := (52 + i) + 1) dX1_dropMemo_54 rfl ?_
        refine tz_aL (pc := 55) (z := ((52 + i) + 1)) (v := (J1 19 ((52 + i) + 1))) dX1_dropMemo_55 a_19 rfl (by omega) (Eq.trans (show zup _ 19 (43 + i) (J1 19 ((43 + i) + 1)) 19 ((52 + i) + 1) = _ from zup_ne (by omega)) rfl) (fun r_55 => ?_)
        refine tz_aS (pc := 56) (z := (52 + i)) dX1_dropMemo_56 a_19 rfl (by omega) (by omega) ?_
        refine tz_iinc (pc := 57) (z := i + 1) (L2 := [_, _, _, _]) dX1_dropMemo_57 rfl (by omega) rfl ?_
        refine tz_goto (pc := 60) (tgt := 12) dX1_dropMemo_60 (by decide) ?_
        exact ih12 (i + 1) _ (by omega) (by omega) (zOf.up rfl (zOf.up rfl fr)) (by rw [e1]; exact zdm_s (by omega))
  exact loop12 _ _ _ (Nat.lt_succ_self _) (by omega) zOf.rf zdm_0.symm

theorem zdM_6 {J : zJ} {w : Int} : zdM J w 19 6 = J 19 6 - 1 := zup_at
set_option maxHeartbeats 4000000 in
set_option maxRecDepth 100000 in
theorem c_remember {l : Launch} {G : tb_G} (hl : l.stackTraces = false) (n : Nat) (J : zJ) (x : Int) (y : Int) (hr_x : -2147483648 ≤ x ∧ x < 2147483648) (hr_y : -2147483648 ≤ y ∧ y < 2147483648)  (h0 : 0 ≤ J 19 6 ∧ J 19 6 ≤ 9) (h1 : 0 ≤ J 19 1 ∧ J 19 1 ≤ 9) : tz_Ok l G M_X1_remember 1 0 0 [.ref 18, zi x, zi y] n J (zqv (fun J' => zrM J x y = J')) zN := by
  refine tz_Ok.of hl (by decide +kernel) rfl (tb_c1 rfl) (Nat.le_of_ble_eq_true rfl) ?_
  show tz_At l G M_X1_remember (tb_rm 1 0 0) none (tb_ZM G 0 0 (zQ n 0 (zqv (fun J' => zrM J x y = J'))) (zX n 0 zN)) 0 0 n J 0 [some (.ref 18), some (zi x), some (zi y)] []
  refine tz_aload_n (pc := 0) dX1_remember_0 rfl rfl ?_
  refine tz_fR (pc := 1) dX1_remember_1 fl_X1_11 r_18_0 ?_
  refine tz_iconst (pc := 4) dX1_remember_4 ?_
  refine tz_aL (pc := 5) (z := 1) (v := (J 19 1)) dX1_remember_5 a_19 rfl (by decide) rfl (fun r_5 => ?_)
  refine tz_if_ne (pc := 6) (tgt := 10) dX1_remember_6 (by decide) (by omega) (fun h_6 => ?_) (fun h_6 => ?_)
  · refine tz_aload_n (pc := 10) dX1_remember_10 rfl rfl ?_
    refine tz_fR (pc := 11) dX1_remember_11 fl_X1_11 r_18_0 ?_
    refine tz_bipush (pc := 14) dX1_remember_14 (by decide) ?_
    refine tz_aL (pc := 16) (z := 6) (v := (J 19 6)) dX1_remember_16 a_19 rfl (by decide) rfl (fun r_16 => ?_)
    refine tz_aload_n (pc := 17) dX1_remember_17 rfl rfl ?_
    refine tz_fR (pc := 18) dX1_remember_18 fl_X1_11 r_18_0 ?_
    refine tz_iconst (pc := 21) dX1_remember_21 ?_
    refine tz_aL (pc := 22) (z := 1) (v := (J 19 1)) dX1_remember_22 a_19 rfl (by decide) rfl (fun r_22 => ?_)
    refine tz_icmp_lt (pc := 23) (tgt := 31) dX1_remember_23 (by decide) (by omega) (by omega) (fun h_23 => ?_) (fun h_23 => ?_)
    · refine tz_aload_n (pc := 31) dX1_remember_31 rfl rfl ?_
      refine tz_iload_n (pc := 32) dX1_remember_32 rfl rfl ?_
      refine tz_iload_n (pc := 33) dX1_remember_33 rfl rfl ?_
      refine tz_cV (pc := 34) (c_addMemo hl n _ _ _ (by omega) (by omega) (by first | exact h0 | (rw [zdM_6]; omega))) vl_X1_35 dX1_remember_34 o_18 rfl rfl (Nat.le_of_ble_eq_true rfl) ⟨(Nat.le_of_ble_eq_true rfl), (Nat.le_of_ble_eq_true rfl)⟩ rfl rfl (Nat.le_of_ble_eq_true rfl) (Nat.le_of_ble_eq_true rfl) (fun r9 J_34 hq9 => ?_)
      obtain ⟨rfl, e9⟩ := hq9
      exact tz_vret (pc := 37) dX1_remember_37 rfl (Nat.le_of_ble_eq_true rfl) (Nat.le_of_ble_eq_true rfl) ⟨Nat.le_refl _, Nat.le_add_right _ _⟩ ⟨rfl, (by unfold zrM; first | exact if_pos (by omega) | exact (if_neg (by omega)).trans ((if_pos (by omega)).trans e9) | exact (if_neg (by omega)).trans ((if_neg (by omega)).trans e9))⟩
    · refine tz_aload_n (pc := 26) dX1_remember_26 rfl rfl ?_
      refine tz_iconst (pc := 27) dX1_remember_27 ?_
      refine tz_cV (pc := 28) (c_dropMemo hl n _ _ (by decide) (by omega) (by omega)) vl_X1_31 dX1_remember_28 o_18 rfl rfl (Nat.le_of_ble_eq_true rfl) ⟨(Nat.le_of_ble_eq_true rfl), (Nat.le_of_ble_eq_true rfl)⟩ rfl rfl (Nat.le_of_ble_eq_true rfl) (Nat.le_of_ble_eq_true rfl) (fun r9 J_28 hq9 => ?_)
      obtain ⟨rfl, rfl⟩ := hq9
      refine tz_aload_n (pc := 31) dX1_remember_31 rfl rfl ?_
      refine tz_iload_n (pc := 32) dX1_remember_32 rfl rfl ?_
      refine tz_iload_n (pc := 33) dX1_remember_33 rfl rfl ?_
      refine tz_cV (pc := 34) (c_addMemo hl n _ _ _ (by omega) (by omega) (by first | exact h0 | (rw [zdM_6]; omega))) vl_X1_35 dX1_remember_34 o_18 rfl rfl (Nat.le_of_ble_eq_true rfl) ⟨(Nat.le_of_ble_eq_true rfl), (Nat.le_of_ble_eq_true rfl)⟩ rfl rfl (Nat.le_of_ble_eq_true rfl) (Nat.le_of_ble_eq_true rfl) (fun r9 J_34 hq9 => ?_)
      obtain ⟨rfl, e9⟩ := hq9
      exact tz_vret (pc := 37) dX1_remember_37 rfl (Nat.le_of_ble_eq_true rfl) (Nat.le_of_ble_eq_true rfl) ⟨Nat.le_refl _, Nat.le_add_right _ _⟩ ⟨rfl, (by unfold zrM; first | exact if_pos (by omega) | exact (if_neg (by omega)).trans ((if_pos (by omega)).trans e9) | exact (if_neg (by omega)).trans ((if_neg (by omega)).trans e9))⟩
  · exact tz_vret (pc := 9) dX1_remember_9 rfl (Nat.le_of_ble_eq_true rfl) (Nat.le_of_ble_eq_true rfl) ⟨Nat.le_refl _, Nat.le_add_right _ _⟩ ⟨rfl, (by unfold zrM; first | exact if_pos (by omega) | exact (if_neg (by omega)).trans ((if_pos (by omega)).trans e9) | exact (if_neg (by omega)).trans ((if_neg (by omega)).trans e9))⟩

set_option maxHeartbeats 4000000 in
set_option maxRecDepth 100000 in
theorem c_fillAnew {l : Launch} {G : tb_G} (hl : l.stackTraces = false) (n : Nat) (J : zJ)     : tz_Ok l G M_X1_fillAnew 1 0 0 [.ref 19] n J (zqv (fun J' => zOf (zbut [19]) J' J ∧ ∀ k, 0 ≤ k → k < 61 → J' 19 k = (fun k => if k = 1 then 4 else if 7 ≤ k ∧ k < 15 then -1 else 0) k)) zN := by
  refine tz_Ok.of hl (by decide +kernel) rfl (tb_c1 rfl) (Nat.le_of_ble_eq_true rfl) ?_
  show tz_At l G M_X1_fillAnew (tb_rm 1 0 0) none (tb_ZM G 0 0 (zQ n 0 (zqv (fun J' => zOf (zbut [19]) J' J ∧ ∀ k, 0 ≤ k → k < 61 → J' 19 k = (fun k => if k = 1 then 4 else if 7 ≤ k ∧ k < 15 then -1 else 0) k))) (zX n 0 zN)) 0 0 n J 0 [some (.ref 19), none] []
  refine tz_aload_n (pc := 0) dX1_fillAnew_0 rfl rfl ?_
  refine tz_iconst (pc := 1) dX1_fillAnew_1 ?_
  refine tz_cS (pc := 2) (zJ_fill hl n _ 19 _ 61 0 (by decide) a_19 rfl) sl_X1_19 dX1_fillAnew_2 rfl rfl (Nat.le_of_ble_eq_true rfl) ⟨(Nat.le_of_ble_eq_true rfl), (Nat.le_of_ble_eq_true rfl)⟩ rfl rfl (Nat.le_of_ble_eq_true rfl) (Nat.le_of_ble_eq_true rfl) (fun r9 J_2 hq9 => ?_)
  obtain ⟨rfl, rfl⟩ := hq9
  refine tz_iconst (pc := 5) dX1_fillAnew_5 ?_
  refine tz_istore_n (pc := 6) (L2 := [_, _]) dX1_fillAnew_6 rfl (by decide) rfl ?_
  refine tz_iload_n (pc := 7) dX1_fillAnew_7 rfl rfl ?_
  refine tz_bipush (pc := 8) dX1_fillAnew_8 (by decide) ?_
  refine tz_icmp_geF (pc := 10) (tgt := 26) (by decide) dX1_fillAnew_10 (by decide) (by decide) (by decide) ?_
  refine tz_aload_n (pc := 13) dX1_fillAnew_13 rfl rfl ?_
  refine tz_bipush (pc := 14) dX1_fillAnew_14 (by decide) ?_
  refine tz_iload_n (pc := 16) dX1_fillAnew_16 rfl rfl ?_
  refine tz_iadd (pc := 17) (v := 7) dX1_fillAnew_17 (by decide) ?_
  refine tz_iconst (pc := 18) dX1_fillAnew_18 ?_
  refine tz_aS (pc := 19) (z := 7) dX1_fillAnew_19 a_19 rfl (by decide) (by decide) ?_
  refine tz_iinc (pc := 20) (z := 1) (L2 := [_, _]) dX1_fillAnew_20 rfl (by decide) rfl ?_
  refine tz_goto (pc := 23) (tgt := 7) dX1_fillAnew_23 (by decide) ?_
  refine tz_iload_n (pc := 7) dX1_fillAnew_7 rfl rfl ?_
  refine tz_bipush (pc := 8) dX1_fillAnew_8 (by decide) ?_
  refine tz_icmp_geF (pc := 10) (tgt := 26) (by decide) dX1_fillAnew_10 (by decide) (by decide) (by decide) ?_
  refine tz_aload_n (pc := 13) dX1_fillAnew_13 rfl rfl ?_
  refine tz_bipush (pc := 14) dX1_fillAnew_14 (by decide) ?_
  refine tz_iload_n (pc := 16) dX1_fillAnew_16 rfl rfl ?_
  refine tz_iadd (pc := 17) (v := 8) dX1_fillAnew_17 (by decide) ?_
  refine tz_iconst (pc := 18) dX1_fillAnew_18 ?_
  refine tz_aS (pc := 19) (z := 8) dX1_fillAnew_19 a_19 rfl (by decide) (by decide) ?_
  refine tz_iinc (pc := 20) (z := 2) (L2 := [_, _]) dX1_fillAnew_20 rfl (by decide) rfl ?_
  refine tz_goto (pc := 23) (tgt := 7) dX1_fillAnew_23 (by decide) ?_
  refine tz_iload_n (pc := 7) dX1_fillAnew_7 rfl rfl ?_
  refine tz_bipush (pc := 8) dX1_fillAnew_8 (by decide) ?_
  refine tz_icmp_geF (pc := 10) (tgt := 26) (by decide) dX1_fillAnew_10 (by decide) (by decide) (by decide) ?_
  refine tz_aload_n (pc := 13) dX1_fillAnew_13 rfl rfl ?_
  refine tz_bipush (pc := 14) dX1_fillAnew_14 (by decide) ?_
  refine tz_iload_n (pc := 16) dX1_fillAnew_16 rfl rfl ?_
  refine tz_iadd (pc := 17) (v := 9) dX1_fillAnew_17 (by decide) ?_
  refine tz_iconst (pc := 18) dX1_fillAnew_18 ?_
  refine tz_aS (pc := 19) (z := 9) dX1_fillAnew_19 a_19 rfl (by decide) (by decide) ?_
  refine tz_iinc (pc := 20) (z := 3) (L2 := [_, _]) dX1_fillAnew_20 rfl (by decide) rfl ?_
  refine tz_goto (pc := 23) (tgt := 7) dX1_fillAnew_23 (by decide) ?_
  refine tz_iload_n (pc := 7) dX1_fillAnew_7 rfl rfl ?_
  refine tz_bipush (pc := 8) dX1_fillAnew_8 (by decide) ?_
  refine tz_icmp_geF (pc := 10) (tgt := 26) (by decide) dX1_fillAnew_10 (by decide) (by decide) (by decide) ?_
  refine tz_aload_n (pc := 13) dX1_fillAnew_13 rfl rfl ?_
  refine tz_bipush (pc := 14) dX1_fillAnew_14 (by decide) ?_
  refine tz_iload_n (pc := 16) dX1_fillAnew_16 rfl rfl ?_
  refine tz_iadd (pc := 17) (v := 10) dX1_fillAnew_17 (by decide) ?_
  refine tz_iconst (pc := 18) dX1_fillAnew_18 ?_
  refine tz_aS (pc := 19) (z := 10) dX1_fillAnew_19 a_19 rfl (by decide) (by decide) ?_
  refine tz_iinc (pc := 20) (z := 4) (L2 := [_, _]) dX1_fillAnew_20 rfl (by decide) rfl ?_
  refine tz_goto (pc := 23) (tgt := 7) dX1_fillAnew_23 (by decide) ?_
  refine tz_iload_n (pc := 7) dX1_fillAnew_7 rfl rfl ?_
  refine tz_bipush (pc := 8) dX1_fillAnew_8 (by decide) ?_
  refine tz_icmp_geF (pc := 10) (tgt := 26) (by decide) dX1_fillAnew_10 (by decide) (by decide) (by decide) ?_
  refine tz_aload_n (pc := 13) dX1_fillAnew_13 rfl rfl ?_
  refine tz_bipush (pc := 14) dX1_fillAnew_14 (by decide) ?_
  refine tz_iload_n (pc := 16) dX1_fillAnew_16 rfl rfl ?_
  refine tz_iadd (pc := 17) (v := 11) dX1_fillAnew_17 (by decide) ?_
  refine tz_iconst (pc := 18) dX1_fillAnew_18 ?_
  refine tz_aS (pc := 19) (z := 11) dX1_fillAnew_19 a_19 rfl (by decide) (by decide) ?_
  refine tz_iinc (pc := 20) (z := 5) (L2 := [_, _]) dX1_fillAnew_20 rfl (by decide) rfl ?_
  refine tz_goto (pc := 23) (tgt := 7) dX1_fillAnew_23 (by decide) ?_
  refine tz_iload_n (pc := 7) dX1_fillAnew_7 rfl rfl ?_
  refine tz_bipush (pc := 8) dX1_fillAnew_8 (by decide) ?_
  refine tz_icmp_geF (pc := 10) (tgt := 26) (by decide) dX1_fillAnew_10 (by decide) (by decide) (by decide) ?_
  refine tz_aload_n (pc := 13) dX1_fillAnew_13 rfl rfl ?_
  refine tz_bipush (pc := 14) dX1_fillAnew_14 (by decide) ?_
  refine tz_iload_n (pc := 16) dX1_fillAnew_16 rfl rfl ?_
  refine tz_iadd (pc := 17) (v := 12) dX1_fillAnew_17 (by decide) ?_
  refine tz_iconst (pc := 18) dX1_fillAnew_18 ?_
  refine tz_aS (pc := 19) (z := 12) dX1_fillAnew_19 a_19 rfl (by decide) (by decide) ?_
  refine tz_iinc (pc := 20) (z := 6) (L2 := [_, _]) dX1_fillAnew_20 rfl (by decide) rfl ?_
  refine tz_goto (pc := 23) (tgt := 7) dX1_fillAnew_23 (by decide) ?_
  refine tz_iload_n (pc := 7) dX1_fillAnew_7 rfl rfl ?_
  refine tz_bipush (pc := 8) dX1_fillAnew_8 (by decide) ?_
  refine tz_icmp_geF (pc := 10) (tgt := 26) (by decide) dX1_fillAnew_10 (by decide) (by decide) (by decide) ?_
  refine tz_aload_n (pc := 13) dX1_fillAnew_13 rfl rfl ?_
  refine tz_bipush (pc := 14) dX1_fillAnew_14 (by decide) ?_
  refine tz_iload_n (pc := 16) dX1_fillAnew_16 rfl rfl ?_
  refine tz_iadd (pc := 17) (v := 13) dX1_fillAnew_17 (by decide) ?_
  refine tz_iconst (pc := 18) dX1_fillAnew_18 ?_
  refine tz_aS (pc := 19) (z := 13) dX1_fillAnew_19 a_19 rfl (by decide) (by decide) ?_
  refine tz_iinc (pc := 20) (z := 7) (L2 := [_, _]) dX1_fillAnew_20 rfl (by decide) rfl ?_
  refine tz_goto (pc := 23) (tgt := 7) dX1_fillAnew_23 (by decide) ?_
  refine tz_iload_n (pc := 7) dX1_fillAnew_7 rfl rfl ?_
  refine tz_bipush (pc := 8) dX1_fillAnew_8 (by decide) ?_
  refine tz_icmp_geF (pc := 10) (tgt := 26) (by decide) dX1_fillAnew_10 (by decide) (by decide) (by decide) ?_
  refine tz_aload_n (pc := 13) dX1_fillAnew_13 rfl rfl ?_
  refine tz_bipush (pc := 14) dX1_fillAnew_14 (by decide) ?_
  refine tz_iload_n (pc := 16) dX1_fillAnew_16 rfl rfl ?_
  refine tz_iadd (pc := 17) (v := 14) dX1_fillAnew_17 (by decide) ?_
  refine tz_iconst (pc := 18) dX1_fillAnew_18 ?_
  refine tz_aS (pc := 19) (z := 14) dX1_fillAnew_19 a_19 rfl (by decide) (by decide) ?_
  refine tz_iinc (pc := 20) (z := 8) (L2 := [_, _]) dX1_fillAnew_20 rfl (by decide) rfl ?_
  refine tz_goto (pc := 23) (tgt := 7) dX1_fillAnew_23 (by decide) ?_
  refine tz_iload_n (pc := 7) dX1_fillAnew_7 rfl rfl ?_
  refine tz_bipush (pc := 8) dX1_fillAnew_8 (by decide) ?_
  refine tz_icmp_geT (pc := 10) (tgt := 26) (by decide) dX1_fillAnew_10 (by decide) (by decide) (by decide) ?_
  refine tz_aload_n (pc := 26) dX1_fillAnew_26 rfl rfl ?_
  refine tz_iconst (pc := 27) dX1_fillAnew_27 ?_
  refine tz_iconst (pc := 28) dX1_fillAnew_28 ?_
  refine tz_aS (pc := 29) (z := 1) dX1_fillAnew_29 a_19 rfl (by decide) (by decide) ?_
  exact tz_vret (pc := 30) dX1_fillAnew_30 rfl (Nat.le_of_ble_eq_true rfl) (Nat.le_of_ble_eq_true rfl) ⟨Nat.le_refl _, Nat.le_add_right _ _⟩ ⟨rfl, ⟨(zOf.up rfl (zOf.up rfl (zOf.up rfl (zOf.up rfl (zOf.up rfl (zOf.up rfl (zOf.up rfl (zOf.up rfl (zOf.up rfl (zOf.fl rfl zOf.rf)))))))))), fun k a b => by simp only [zup, zfl, if_true]; (repeat' split) <;> omega⟩⟩

set_option maxHeartbeats 4000000 in
set_option maxRecDepth 100000 in
theorem c_leEmpty {l : Launch} {G : tb_G} (hl : l.stackTraces = false) (n : Nat) (J : zJ)     : tz_Ok l G M_X1_empty 2 0 0 [.ref 18] n J (zqv (fun J' => zOf (zbut [19]) J' J ∧ ∀ k, 0 ≤ k → k < 61 → J' 19 k = (fun k => if k = 1 then 4 else if 7 ≤ k ∧ k < 15 then -1 else 0) k)) zN := by
  refine tz_Ok.of hl (by decide +kernel) rfl (tb_c1 rfl) (Nat.le_of_ble_eq_true rfl) ?_
  show tz_At l G M_X1_empty (tb_rm 2 0 0) none (tb_ZM G 0 0 (zQ n 0 (zqv (fun J' => zOf (zbut [19]) J' J ∧ ∀ k, 0 ≤ k → k < 61 → J' 19 k = (fun k => if k = 1 then 4 else if 7 ≤ k ∧ k < 15 then -1 else 0) k))) (zX n 0 zN)) 0 0 n J 0 [some (.ref 18)] []
  refine tz_aload_n (pc := 0) dX1_empty_0 rfl rfl ?_
  refine tz_fR (pc := 1) dX1_empty_1 fl_X1_11 r_18_0 ?_
  refine tz_cS (pc := 4) (c_fillAnew hl n _) sl_X1_15 dX1_empty_4 rfl rfl (Nat.le_of_ble_eq_true rfl) ⟨(Nat.le_of_ble_eq_true rfl), (Nat.le_of_ble_eq_true rfl)⟩ rfl rfl (Nat.le_of_ble_eq_true rfl) (Nat.le_of_ble_eq_true rfl) (fun r9 J_4 hq9 => ?_)
  obtain ⟨rfl, f1, f2⟩ := hq9
  exact tz_vret (pc := 7) dX1_empty_7 rfl (Nat.le_of_ble_eq_true rfl) (Nat.le_of_ble_eq_true rfl) ⟨Nat.le_refl _, Nat.le_add_right _ _⟩ ⟨rfl, ⟨f1, f2⟩⟩

set_option maxHeartbeats 4000000 in
set_option maxRecDepth 100000 in
theorem c_syEmpty {l : Launch} {G : tb_G} (hl : l.stackTraces = false) (n : Nat) (J : zJ)     : tz_Ok l G M_X8_empty 0 0 0 [.ref 1] n J (zqv (fun J' => zup J 1 3 0 = J')) zN := by
  refine tz_Ok.of hl (by decide +kernel) rfl (tb_c1 rfl) (Nat.le_of_ble_eq_true rfl) ?_
  show tz_At l G M_X8_empty (tb_rm 0 0 0) none (tb_ZM G 0 0 (zQ n 0 (zqv (fun J' => zup J 1 3 0 = J'))) (zX n 0 zN)) 0 0 n J 0 [some (.ref 1)] []
  refine tz_aload_n (pc := 0) dX8_empty_0 rfl rfl ?_
  refine tz_iconst (pc := 1) dX8_empty_1 ?_
  refine tz_pI (pc := 2) (kz := 3) dX8_empty_2 fl_X8_21 i_1_3 rfl rfl (by decide) ?_
  exact tz_vret (pc := 5) dX8_empty_5 rfl (Nat.le_of_ble_eq_true rfl) (Nat.le_of_ble_eq_true rfl) ⟨Nat.le_refl _, Nat.le_add_right _ _⟩ ⟨rfl, rfl⟩

set_option maxHeartbeats 4000000 in
set_option maxRecDepth 100000 in
theorem c_teEmpty {l : Launch} {G : tb_G} (hl : l.stackTraces = false) (n : Nat) (J : zJ)     : tz_Ok l G M_X9_empty 1 0 0 [.ref 6] n J (zqv (fun J' => zfl (zup J 6 12 0) 16 256 (-1) = J')) zN := by
  refine tz_Ok.of hl (by decide +kernel) rfl (tb_c1 rfl) (Nat.le_of_ble_eq_true rfl) ?_
  show tz_At l G M_X9_empty (tb_rm 1 0 0) none (tb_ZM G 0 0 (zQ n 0 (zqv (fun J' => zfl (zup J 6 12 0) 16 256 (-1) = J'))) (zX n 0 zN)) 0 0 n J 0 [some (.ref 6)] []
  refine tz_aload_n (pc := 0) dX9_empty_0 rfl rfl ?_
  refine tz_iconst (pc := 1) dX9_empty_1 ?_
  refine tz_pI (pc := 2) (kz := 12) dX9_empty_2 fl_X9_45 i_6_12 rfl rfl (by decide) ?_
  refine tz_aload_n (pc := 5) dX9_empty_5 rfl rfl ?_
  refine tz_fR (pc := 6) dX9_empty_6 fl_X9_39 r_6_10 ?_
  refine tz_iconst (pc := 9) dX9_empty_9 ?_
  refine tz_cS (pc := 10) (zJ_fill hl n _ 16 _ 256 (-1) (by decide) a_16 rfl) sl_X9_53 dX9_empty_10 rfl rfl (Nat.le_of_ble_eq_true rfl) ⟨(Nat.le_of_ble_eq_true rfl), (Nat.le_of_ble_eq_true rfl)⟩ rfl rfl (Nat.le_of_ble_eq_true rfl) (Nat.le_of_ble_eq_true rfl) (fun r9 J_10 hq9 => ?_)
  obtain ⟨rfl, rfl⟩ := hq9
  exact tz_vret (pc := 13) dX9_empty_13 rfl (Nat.le_of_ble_eq_true rfl) (Nat.le_of_ble_eq_true rfl) ⟨Nat.le_refl _, Nat.le_add_right _ _⟩ ⟨rfl, rfl⟩

set_option maxHeartbeats 4000000 in
set_option maxRecDepth 100000 in
theorem c_syAdd {l : Launch} {G : tb_G} (hl : l.stackTraces = false) (n : Nat) (J : zJ) (x : Int) (y : Int) (w : Int) (hr_x : -2147483648 ≤ x ∧ x < 2147483648) (hr_y : -2147483648 ≤ y ∧ y < 2147483648) (hr_w : -2147483648 ≤ w ∧ w < 2147483648)  (h0 : 0 ≤ J 1 3 ∧ J 1 3 < 10) : tz_Ok l G M_X8_add 0 0 0 [.ref 1, zi x, zi y, zi w] n J (zqv (fun J' => zup (zup (zup (zup J 2 (J 1 3) x) 3 (J 1 3) y) 4 (J 1 3) w) 1 3 (J 1 3 + 1) = J')) zN := by
  refine tz_Ok.of hl (by decide +kernel) rfl (tb_c1 rfl) (Nat.le_of_ble_eq_true rfl) ?_
  show tz_At l G M_X8_add (tb_rm 0 0 0) none (tb_ZM G 0 0 (zQ n 0 (zqv (fun J' => zup (zup (zup (zup J 2 (J 1 3) x) 3 (J 1 3) y) 4 (J 1 3) w) 1 3 (J 1 3 + 1) = J'))) (zX n 0 zN)) 0 0 n J 0 [some (.ref 1), some (zi x), some (zi y), some (zi w)] []
  refine tz_aload_n (pc := 0) dX8_add_0 rfl rfl ?_
  refine tz_fI (pc := 1) (kz := 3) (v := (J 1 3)) dX8_add_1 fl_X8_21 i_1_3 rfl rfl (fun r_1 => ?_)
  refine tz_bipush (pc := 4) dX8_add_4 (by decide) ?_
  refine tz_icmp_geF (pc := 6) (tgt := 49) (by omega) dX8_add_6 (by decide) (by omega) (by decide) ?_
  refine tz_aload_n (pc := 9) dX8_add_9 rfl rfl ?_
  refine tz_fR (pc := 10) dX8_add_10 fl_X8_9 r_1_0 ?_
  refine tz_aload_n (pc := 13) dX8_add_13 rfl rfl ?_
  refine tz_fI (pc := 14) (kz := 3) (v := (J 1 3)) dX8_add_14 fl_X8_21 i_1_3 rfl rfl (fun r_14 => ?_)
  refine tz_iload_n (pc := 17) dX8_add_17 rfl rfl ?_
  refine tz_aS (pc := 18) (z := (J 1 3)) dX8_add_18 a_2 rfl (by omega) (by omega) ?_
  refine tz_aload_n (pc := 19) dX8_add_19 rfl rfl ?_
  refine tz_fR (pc := 20) dX8_add_20 fl_X8_15 r_1_1 ?_
  refine tz_aload_n (pc := 23) dX8_add_23 rfl rfl ?_
  refine tz_fI (pc := 24) (kz := 3) (v := (J 1 3)) dX8_add_24 fl_X8_21 i_1_3 rfl rfl (fun r_24 => ?_)
  refine tz_iload_n (pc := 27) dX8_add_27 rfl rfl ?_
  refine tz_aS (pc := 28) (z := (J 1 3)) dX8_add_28 a_3 rfl (by omega) (by omega) ?_
  refine tz_aload_n (pc := 29) dX8_add_29 rfl rfl ?_
  refine tz_fR (pc := 30) dX8_add_30 fl_X8_18 r_1_2 ?_
  refine tz_aload_n (pc := 33) dX8_add_33 rfl rfl ?_
  refine tz_fI (pc := 34) (kz := 3) (v := (J 1 3)) dX8_add_34 fl_X8_21 i_1_3 rfl rfl (fun r_34 => ?_)
  refine tz_iload_n (pc := 37) dX8_add_37 rfl rfl ?_
  refine tz_aS (pc := 38) (z := (J 1 3)) dX8_add_38 a_4 rfl (by omega) (by omega) ?_
  refine tz_aload_n (pc := 39) dX8_add_39 rfl rfl ?_
  refine tz_dup (pc := 40) dX8_add_40 rfl ?_
  refine tz_fI (pc := 41) (kz := 3) (v := (J 1 3)) dX8_add_41 fl_X8_21 i_1_3 rfl rfl (fun r_41 => ?_)
  refine tz_iconst (pc := 44) dX8_add_44 ?_
  refine tz_iadd (pc := 45) (v := (J 1 3) + 1) dX8_add_45 rfl ?_
  refine tz_pI (pc := 46) (kz := 3) dX8_add_46 fl_X8_21 i_1_3 rfl rfl (by omega) ?_
  exact tz_vret (pc := 49) dX8_add_49 rfl (Nat.le_of_ble_eq_true rfl) (Nat.le_of_ble_eq_true rfl) ⟨Nat.le_refl _, Nat.le_add_right _ _⟩ ⟨rfl, rfl⟩

end
section
/-- by values: a row g that is f but for slots that don't count -/
theorem LI.cg {f g : Int → Int} {m : Int} (h : LI f m) (e : ∀ k, 1 ≤ k → ¬ k = 2 → ¬ k = 3 → g k = f k) : LI g m := by
  obtain ⟨h1, h2, h3, h4, h5⟩ := h
  have e1 := e 1 (by decide) (by decide) (by decide)
  have e4 := e 4 (by decide) (by decide) (by decide)
  have e5 := e 5 (by decide) (by decide) (by decide)
  have e6 := e 6 (by decide) (by decide) (by decide)
  refine ⟨by omega, fun v a b => ?_, fun i a b => ?_, fun i a b => ?_, fun i a b => ?_⟩
  · rw [e (7 + v) (by omega) (by omega) (by omega)]; exact h2 v a b
  · rw [e (15 + i) (by omega) (by omega) (by omega), e (23 + i) (by omega) (by omega) (by omega)]; exact h3 i a (by omega)
  · rw [e (31 + i) (by omega) (by omega) (by omega)]; exact h4 i a (by omega)
  · rw [e (43 + i) (by omega) (by omega) (by omega), e (52 + i) (by omega) (by omega) (by omega)]; exact h5 i a (by omega)
theorem LI.hits {J : zJ} {m z : Int} (h : LI (J 19) m) : LI (zup J 19 2 z 19) m := h.cg (fun k _ b _ => zup_ne b)
theorem LI.steps {J : zJ} {m z : Int} (h : LI (J 19) m) : LI (zup J 19 3 z 19) m := h.cg (fun k _ _ b => zup_ne b)
theorem LI.terms {J : zJ} {m z : Int} (h : LI (J 19) m) : LI (zup J 19 0 z 19) m := h.cg (fun k b _ _ => zup_ne (by omega))
theorem LI.bind {J : zJ} {m v z : Int} (h : LI (J 19) m) (hv : 0 ≤ v ∧ v < 8) (hz : -1 ≤ z ∧ z < m) : LI (zup J 19 (7 + v) z 19) m := by
  obtain ⟨h1, h2, h3, h4, h5⟩ := h
  have e : ∀ k, ¬ k = 7 + v → zup J 19 (7 + v) z 19 k = J 19 k := fun k b => zup_ne b
  have e0 : zup J 19 (7 + v) z 19 (7 + v) = z := zup_at
  generalize zup J 19 (7 + v) z 19 = g at *
  have e1 := e 1 (by omega)
  have e4 := e 4 (by omega)
  have e5 := e 5 (by omega)
  have e6 := e 6 (by omega)
  refine ⟨by omega, fun u a b => ?_, fun i a b => ?_, fun i a b => ?_, fun i a b => ?_⟩
  · by_cases q : u = v
    · rw [q, e0]; exact hz
    · rw [e (7 + u) (by omega)]; exact h2 u a b
  · rw [e (15 + i) (by omega), e (23 + i) (by omega)]; exact h3 i a (by omega)
  · rw [e (31 + i) (by omega)]; exact h4 i a (by omega)
  · rw [e (43 + i) (by omega), e (52 + i) (by omega)]; exact h5 i a (by omega)
theorem LI.room {J : zJ} {m z : Int} (h : LI (J 19) m) (hz : 0 ≤ z ∧ z ≤ 9) : LI (zup (zup J 19 1 z) 19 6 0 19) m := by
  obtain ⟨h1, h2, h3, h4, h5⟩ := h
  have e : ∀ k, ¬ k = 6 → ¬ k = 1 → zup (zup J 19 1 z) 19 6 0 19 k = J 19 k := fun k a b => (zup_ne a).trans (zup_ne b)
  have e1 : zup (zup J 19 1 z) 19 6 0 19 1 = z := (zup_ne (by decide)).trans zup_at
  have e6 : zup (zup J 19 1 z) 19 6 0 19 6 = 0 := zup_at
  generalize zup (zup J 19 1 z) 19 6 0 19 = g at *
  have e4 := e 4 (by omega) (by omega)
  have e5 := e 5 (by omega) (by omega)
  refine ⟨by omega, fun u a b => ?_, fun i a b => ?_, fun i a b => ?_, fun i a b => by omega⟩
  · rw [e (7 + u) (by omega) (by omega)]; exact h2 u a b
  · rw [e (15 + i) (by omega) (by omega), e (23 + i) (by omega) (by omega)]; exact h3 i a (by omega)
  · rw [e (31 + i) (by omega) (by omega)]; exact h4 i a (by omega)
theorem LI.aR {J : zJ} {m x y : Int} (h : LI (J 19) m) (hx : 0 ≤ x ∧ x < m) (hy : 0 ≤ y ∧ y < m) : LI (zaR J x y 19) m := by
  unfold zaR
  split
  · rename_i hl
    obtain ⟨h1, h2, h3, h4, h5⟩ := h
    generalize hg : zup (zup (zup (zup J 19 (15 + J 19 4) x) 19 (23 + J 19 4) y) 19 4 (J 19 4 + 1)) 19 6 0 19 = g
    have e : ∀ k, g k = if k = 6 then 0 else if k = 4 then J 19 4 + 1 else if k = 23 + J 19 4 then y else if k = 15 + J 19 4 then x else J 19 k := fun k => by rw [← hg]; simp only [zup, if_true]
    have e4 : g 4 = J 19 4 + 1 := by rw [e, if_neg (by omega), if_pos rfl]
    have e6 : g 6 = 0 := by rw [e, if_pos rfl]
    have e0 : ∀ k, ¬ k = 6 → ¬ k = 4 → ¬ k = 23 + J 19 4 → ¬ k = 15 + J 19 4 → g k = J 19 k := fun k a b c d => by rw [e, if_neg a, if_neg b, if_neg c, if_neg d]
    have e1 := e0 1 (by omega) (by omega) (by omega) (by omega)
    have e5 := e0 5 (by omega) (by omega) (by omega) (by omega)
    refine ⟨by omega, fun u a b => ?_, fun i a b => ?_, fun i a b => ?_, fun i a b => by omega⟩
    · rw [e0 (7 + u) (by omega) (by omega) (by omega) (by omega)]; exact h2 u a b
    · by_cases q : i = J 19 4
      · rw [e (15 + i), e (23 + i), if_neg (by omega), if_neg (by omega), if_neg (by omega), if_pos (by omega), if_neg (by omega), if_neg (by omega), if_pos (by omega)]
        exact ⟨hx, hy⟩
      · rw [e0 (15 + i) (by omega) (by omega) (by omega) (by omega), e0 (23 + i) (by omega) (by omega) (by omega) (by omega)]; exact h3 i a (by omega)
    · rw [e0 (31 + i) (by omega) (by omega) (by omega) (by omega)]; exact h4 i a (by omega)
  · exact h
theorem LI.aE {J : zJ} {m x : Int} (h : LI (J 19) m) (hx : 0 ≤ x ∧ x < m) : LI (zaE J x 19) m := by
  unfold zaE
  split
  · rename_i hl
    obtain ⟨h1, h2, h3, h4, h5⟩ := h
    generalize hg : zup (zup J 19 (31 + J 19 5) x) 19 5 (J 19 5 + 1) 19 = g
    have e : ∀ k, g k = if k = 5 then J 19 5 + 1 else if k = 31 + J 19 5 then x else J 19 k := fun k => by rw [← hg]; simp only [zup, if_true]
    have e5 : g 5 = J 19 5 + 1 := by rw [e, if_pos rfl]
    have e0 : ∀ k, ¬ k = 5 → ¬ k = 31 + J 19 5 → g k = J 19 k := fun k a b => by rw [e, if_neg a, if_neg b]
    have e1 := e0 1 (by omega) (by omega)
    have e4 := e0 4 (by omega) (by omega)
    have e6 := e0 6 (by omega) (by omega)
    refine ⟨by omega, fun u a b => ?_, fun i a b => ?_, fun i a b => ?_, fun i a b => ?_⟩
    · rw [e0 (7 + u) (by omega) (by omega)]; exact h2 u a b
    · rw [e0 (15 + i) (by omega) (by omega), e0 (23 + i) (by omega) (by omega)]; exact h3 i a (by omega)
    · by_cases q : i = J 19 5
      · rw [e (31 + i), if_neg (by omega), if_pos (by omega)]; exact hx
      · rw [e0 (31 + i) (by omega) (by omega)]; exact h4 i a (by omega)
    · rw [e0 (43 + i) (by omega) (by omega), e0 (52 + i) (by omega) (by omega)]; exact h5 i a (by omega)
  · exact h
theorem LI.dE {J : zJ} {m w : Int} (h : LI (J 19) m) (hw : 0 ≤ w ∧ w < J 19 5) : LI (zdE J w 19) m := by
  obtain ⟨h1, h2, h3, h4, h5⟩ := h
  generalize hg : zdE J w 19 = g
  have e : ∀ k, g k = if k = 5 then J 19 5 - 1 else if 31 + w ≤ k ∧ k < 31 + (J 19 5 - 1) then J 19 (k + 1) else J 19 k := fun k => by rw [← hg]; simp only [zdE, zup, zsh, if_true]
  have e5 : g 5 = J 19 5 - 1 := by rw [e, if_pos rfl]
  have e0 : ∀ k, ¬ k = 5 → ¬ (31 + w ≤ k ∧ k < 31 + (J 19 5 - 1)) → g k = J 19 k := fun k a b => by rw [e, if_neg a, if_neg b]
  have e1 := e0 1 (by omega) (by omega)
  have e4 := e0 4 (by omega) (by omega)
  have e6 := e0 6 (by omega) (by omega)
  refine ⟨by omega, fun u a b => ?_, fun i a b => ?_, fun i a b => ?_, fun i a b => ?_⟩
  · rw [e0 (7 + u) (by omega) (by omega)]; exact h2 u a b
  · rw [e0 (15 + i) (by omega) (by omega), e0 (23 + i) (by omega) (by omega)]; exact h3 i a (by omega)
  · by_cases q : w ≤ i
    · rw [e (31 + i), if_neg (by omega), if_pos (by omega), show 31 + i + 1 = 31 + (i + 1) by omega]; exact h4 (i + 1) (by omega) (by omega)
    · rw [e0 (31 + i) (by omega) (by omega)]; exact h4 i a (by omega)
  · rw [e0 (43 + i) (by omega) (by omega), e0 (52 + i) (by omega) (by omega)]; exact h5 i a (by omega)
theorem LI.dM {J : zJ} {m w : Int} (h : LI (J 19) m) (hw : 0 ≤ w ∧ w < J 19 6) : LI (zdM J w 19) m := by
  obtain ⟨h1, h2, h3, h4, h5⟩ := h
  generalize hg : zdM J w 19 = g
  have e : ∀ k, g k = if k = 6 then J 19 6 - 1 else if (43 + w ≤ k ∧ k < 43 + (J 19 6 - 1)) ∨ (52 + w ≤ k ∧ k < 52 + (J 19 6 - 1)) then J 19 (k + 1) else J 19 k := fun k => by rw [← hg]; simp only [zdM, zup, zdm, if_true]
  have e6 : g 6 = J 19 6 - 1 := by rw [e, if_pos rfl]
  have e0 : ∀ k, ¬ k = 6 → ¬ ((43 + w ≤ k ∧ k < 43 + (J 19 6 - 1)) ∨ (52 + w ≤ k ∧ k < 52 + (J 19 6 - 1))) → g k = J 19 k := fun k a b => by rw [e, if_neg a, if_neg b]
  have e1 := e0 1 (by omega) (by omega)
  have e4 := e0 4 (by omega) (by omega)
  have e5 := e0 5 (by omega) (by omega)
  refine ⟨by omega, fun u a b => ?_, fun i a b => ?_, fun i a b => ?_, fun i a b => ?_⟩
  · rw [e0 (7 + u) (by omega) (by omega)]; exact h2 u a b
  · rw [e0 (15 + i) (by omega) (by omega), e0 (23 + i) (by omega) (by omega)]; exact h3 i a (by omega)
  · rw [e0 (31 + i) (by omega) (by omega)]; exact h4 i a (by omega)
  · by_cases q : w ≤ i
    · rw [e (43 + i), e (52 + i), if_neg (by omega), if_pos (by omega), if_neg (by omega), if_pos (by omega), show 43 + i + 1 = 43 + (i + 1) by omega, show 52 + i + 1 = 52 + (i + 1) by omega]; exact h5 (i + 1) (by omega) (by omega)
    · rw [e0 (43 + i) (by omega) (by omega), e0 (52 + i) (by omega) (by omega)]; exact h5 i a (by omega)
theorem LI.aM {J : zJ} {m x y : Int} (h : LI (J 19) m) (hx : 0 ≤ x ∧ x < m) (hy : 0 ≤ y ∧ y < m) : LI (zaM J x y 19) m := by
  unfold zaM
  split
  · rename_i hl
    obtain ⟨h1, h2, h3, h4, h5⟩ := h
    generalize hg : zup (zup (zup J 19 (43 + J 19 6) x) 19 (52 + J 19 6) y) 19 6 (J 19 6 + 1) 19 = g
    have e : ∀ k, g k = if k = 6 then J 19 6 + 1 else if k = 52 + J 19 6 then y else if k = 43 + J 19 6 then x else J 19 k := fun k => by rw [← hg]; simp only [zup, if_true]
    have e6 : g 6 = J 19 6 + 1 := by rw [e, if_pos rfl]
    have e0 : ∀ k, ¬ k = 6 → ¬ k = 52 + J 19 6 → ¬ k = 43 + J 19 6 → g k = J 19 k := fun k a b c => by rw [e, if_neg a, if_neg b, if_neg c]
    have e1 := e0 1 (by omega) (by omega) (by omega)
    have e4 := e0 4 (by omega) (by omega) (by omega)
    have e5 := e0 5 (by omega) (by omega) (by omega)
    refine ⟨by omega, fun u a b => ?_, fun i a b => ?_, fun i a b => ?_, fun i a b => ?_⟩
    · rw [e0 (7 + u) (by omega) (by omega) (by omega)]; exact h2 u a b
    · rw [e0 (15 + i) (by omega) (by omega) (by omega), e0 (23 + i) (by omega) (by omega) (by omega)]; exact h3 i a (by omega)
    · rw [e0 (31 + i) (by omega) (by omega) (by omega)]; exact h4 i a (by omega)
    · by_cases q : i = J 19 6
      · rw [e (43 + i), e (52 + i), if_neg (by omega), if_neg (by omega), if_pos (by omega), if_neg (by omega), if_pos (by omega)]
        exact ⟨hx, hy⟩
      · rw [e0 (43 + i) (by omega) (by omega) (by omega), e0 (52 + i) (by omega) (by omega) (by omega)]; exact h5 i a (by omega)
  · exact h
theorem LI.rM {J : zJ} {m x y : Int} (h : LI (J 19) m) (hx : 0 ≤ x ∧ x < m) (hy : 0 ≤ y ∧ y < m) : LI (zrM J x y 19) m := by
  have h9 := h.1
  unfold zrM
  split
  · exact h
  · split
    · exact (h.dM (by omega)).aM hx hy
    · exact h.aM hx hy
theorem LI.new {f : Int → Int} {m : Int} (hm : 0 ≤ m) (e : ∀ k, 0 ≤ k → k < 61 → f k = if k = 1 then 4 else if 7 ≤ k ∧ k < 15 then -1 else 0) : LI f m := by
  have e1 := e 1 (by decide) (by decide)
  have e4 := e 4 (by decide) (by decide)
  have e5 := e 5 (by decide) (by decide)
  have e6 := e 6 (by decide) (by decide)
  rw [if_pos rfl] at e1
  rw [if_neg (by decide), if_neg (by decide)] at e4 e5 e6
  refine ⟨by omega, fun u a b => ?_, fun i a b => by omega, fun i a b => by omega, fun i a b => by omega⟩
  rw [e (7 + u) (by omega) (by omega), if_neg (by omega), if_pos (by omega)]
  omega
set_option maxHeartbeats 4000000 in
set_option maxRecDepth 100000 in
theorem c_recalled {l : Launch} {G : tb_G} (hl : l.stackTraces = false) (n : Nat) (J : zJ) (t : Int) (hr_t : -2147483648 ≤ t ∧ t < 2147483648)  (h0 : 0 ≤ J 19 6 ∧ J 19 6 ≤ 9) : tz_Ok l G M_X1_recalled 1 0 0 [.ref 18, zi t] n J (zqi (fun z J' => (z = -1 ∧ J = J' ∧ ∀ i, 0 ≤ i → i < J 19 6 → ¬ J 19 (43 + i) = t) ∨ ∃ i, (0 ≤ i ∧ i < J 19 6 ∧ J 19 (43 + i) = t) ∧ (∀ q, 0 ≤ q → q < i → ¬ J 19 (43 + q) = t) ∧ J 19 (52 + i) = z ∧ zaM (zdM (zup J 19 2 (zw (J 19 2 + 1))) i) t z = J')) zN := by
  refine tz_Ok.of hl (by decide +kernel) rfl (tb_c1 rfl) (Nat.le_of_ble_eq_true rfl) ?_
  show tz_At l G M_X1_recalled (tb_rm 1 0 0) none (tb_ZM G 0 0 (zQ n 0 (zqi (fun z J' => (z = -1 ∧ J = J' ∧ ∀ i, 0 ≤ i → i < J 19 6 → ¬ J 19 (43 + i) = t) ∨ ∃ i, (0 ≤ i ∧ i < J 19 6 ∧ J 19 (43 + i) = t) ∧ (∀ q, 0 ≤ q → q < i → ¬ J 19 (43 + q) = t) ∧ J 19 (52 + i) = z ∧ zaM (zdM (zup J 19 2 (zw (J 19 2 + 1))) i) t z = J'))) (zX n 0 zN)) 0 0 n J 0 [some (.ref 18), some (zi t), none, none] []
  refine tz_iconst (pc := 0) dX1_recalled_0 ?_
  refine tz_istore_n (pc := 1) (L2 := [_, _, _, _]) dX1_recalled_1 rfl (by decide) rfl ?_
  have loop2 : ∀ (f9 : Nat) (i : Int) (d3 : Option Value), ((J 19 6 - i).toNat) < f9 → (0 ≤ i ∧ i ≤ J 19 6) → (∀ q, 0 ≤ q → q < i → ¬ J 19 (43 + q) = t) → tz_At l G M_X1_recalled (tb_rm 1 0 0) none (tb_ZM G 0 0 (zQ n 0 (zqi (fun z J' => (z = -1 ∧ J = J' ∧ ∀ i, 0 ≤ i → i < J 19 6 → ¬ J 19 (43 + i) = t) ∨ ∃ i, (0 ≤ i ∧ i < J 19 6 ∧ J 19 (43 + i) = t) ∧ (∀ q, 0 ≤ q → q < i → ¬ J 19 (43 + q) = t) ∧ J 19 (52 + i) = z ∧ zaM (zdM (zup J 19 2 (zw (J 19 2 + 1))) i) t z = J'))) (zX n 0 zN)) 0 0 n J 2 [some (.ref 18), some (zi t), some (zi i), d3] [] := by
    intro f9
    induction f9 with
    | zero => intro i d3 hm9; exact absurd hm9 (Nat.not_lt_zero _)
    | succ f9 ih2 =>
      intro i d3 hm2 hi hn
      refine tz_iload_n (pc := 2) dX1_recalled_2 rfl rfl ?_
      refine tz_aload_n (pc := 3) dX1_recalled_3 rfl rfl ?_
      refine tz_fR (pc := 4) dX1_recalled_4 fl_X1_11 r_18_0 ?_
      refine tz_bipush (pc := 7) dX1_recalled_7 (by decide) ?_
      refine tz_aL (pc := 9) (z := 6) (v := (J 19 6)) dX1_recalled_9 a_19 rfl (by decide) rfl (fun r_9 => ?_)
      refine tz_icmp_ge (pc := 10) (tgt := 65) dX1_recalled_10 (by decide) (by omega) (by omega) (fun h_10 => ?_) (fun h_10 => ?_)
      · refine tz_iconst (pc := 65) dX1_recalled_65 ?_
        exact tz_iret (pc := 66) (z := (-1)) dX1_recalled_66 rfl (Nat.le_of_ble_eq_true rfl) (Nat.le_of_ble_eq_true rfl) ⟨Nat.le_refl _, Nat.le_add_right _ _⟩ ⟨_, rfl, (by decide), (by first | exact Or.inr ⟨i, ⟨by omega, by omega, by omega⟩, hn, rfl, e9⟩ | exact Or.inl ⟨rfl, rfl, fun q a b => hn q a (by omega)⟩)⟩
      · refine tz_aload_n (pc := 13) dX1_recalled_13 rfl rfl ?_
        refine tz_fR (pc := 14) dX1_recalled_14 fl_X1_11 r_18_0 ?_
        refine tz_bipush (pc := 17) dX1_recalled_17 (by decide) ?_
        refine tz_iload_n (pc := 19) dX1_recalled_19 rfl rfl ?_
        refine tz_iadd (pc := 20) (v := 43 + i) dX1_recalled_20 rfl ?_
        refine tz_aL (pc := 21) (z := (43 + i)) (v := (J 19 (43 + i))) dX1_recalled_21 a_19 rfl (by omega) rfl (fun r_21 => ?_)
        refine tz_iload_n (pc := 22) dX1_recalled_22 rfl rfl ?_
        refine tz_icmp_ne (pc := 23) (tgt := 59) dX1_recalled_23 (by decide) (by omega) (by omega) (fun h_23 => ?_) (fun h_23 => ?_)
        · refine tz_iinc (pc := 59) (z := i + 1) (L2 := [_, _, _, _]) dX1_recalled_59 rfl (by omega) rfl ?_
          refine tz_goto (pc := 62) (tgt := 2) dX1_recalled_62 (by decide) ?_
          exact ih2 (i + 1) _ (by omega) (by omega) (fun q a b => (Decidable.em (q = i)).elim (fun e => by rw [e]; omega) (fun e => hn q a (by omega)))
        · refine tz_aload_n (pc := 26) dX1_recalled_26 rfl rfl ?_
          refine tz_fR (pc := 27) dX1_recalled_27 fl_X1_11 r_18_0 ?_
          refine tz_bipush (pc := 30) dX1_recalled_30 (by decide) ?_
          refine tz_iload_n (pc := 32) dX1_recalled_32 rfl rfl ?_
          refine tz_iadd (pc := 33) (v := 52 + i) dX1_recalled_33 rfl ?_
          refine tz_aL (pc := 34) (z := (52 + i)) (v := (J 19 (52 + i))) dX1_recalled_34 a_19 rfl (by omega) rfl (fun r_34 => ?_)
          refine tz_istore_n (pc := 35) (L2 := [_, _, _, _]) dX1_recalled_35 rfl (by decide) rfl ?_
          refine tz_aload_n (pc := 36) dX1_recalled_36 rfl rfl ?_
          refine tz_fR (pc := 37) dX1_recalled_37 fl_X1_11 r_18_0 ?_
          refine tz_iconst (pc := 40) dX1_recalled_40 ?_
          refine tz_dup2 (pc := 41) dX1_recalled_41 rfl rfl ?_
          refine tz_aL (pc := 42) (z := 2) (v := (J 19 2)) dX1_recalled_42 a_19 rfl (by decide) rfl (fun r_42 => ?_)
          refine tz_iconst (pc := 43) dX1_recalled_43 ?_
          refine tz_iadd (pc := 44) (v := (J 19 2) + 1) dX1_recalled_44 rfl ?_
          refine tz_tw ?_
          have rw_45 := zw_rg ((J 19 2) + 1)
          refine tz_aS (pc := 45) (z := 2) dX1_recalled_45 a_19 rfl (by decide) (zw_rg _) ?_
          refine tz_aload_n (pc := 46) dX1_recalled_46 rfl rfl ?_
          refine tz_iload_n (pc := 47) dX1_recalled_47 rfl rfl ?_
          refine tz_cV (pc := 48) (c_dropMemo hl n _ _ (by omega) (by rw [zup_ne (by decide)]; omega) (by rw [zup_ne (by decide)]; omega)) vl_X1_31 dX1_recalled_48 o_18 rfl rfl (Nat.le_of_ble_eq_true rfl) ⟨(Nat.le_of_ble_eq_true rfl), (Nat.le_of_ble_eq_true rfl)⟩ rfl rfl (Nat.le_of_ble_eq_true rfl) (Nat.le_of_ble_eq_true rfl) (fun r9 J_48 hq9 => ?_)
          obtain ⟨rfl, rfl⟩ := hq9
          refine tz_aload_n (pc := 51) dX1_recalled_51 rfl rfl ?_
          refine tz_iload_n (pc := 52) dX1_recalled_52 rfl rfl ?_
          refine tz_iload_n (pc := 53) dX1_recalled_53 rfl rfl ?_
          refine tz_cV (pc := 54) (c_addMemo hl n _ _ _ (by omega) (by omega) (by rw [zdM_6, zup_ne (by decide)]; omega)) vl_X1_35 dX1_recalled_54 o_18 rfl rfl (Nat.le_of_ble_eq_true rfl) ⟨(Nat.le_of_ble_eq_true rfl), (Nat.le_of_ble_eq_true rfl)⟩ rfl rfl (Nat.le_of_ble_eq_true rfl) (Nat.le_of_ble_eq_true rfl) (fun r9 J_54 hq9 => ?_)
          obtain ⟨rfl, e9⟩ := hq9
          refine tz_iload_n (pc := 57) dX1_recalled_57 rfl rfl ?_
          exact tz_iret (pc := 58) (z := (J 19 (52 + i))) dX1_recalled_58 rfl (Nat.le_of_ble_eq_true rfl) (Nat.le_of_ble_eq_true rfl) ⟨Nat.le_refl _, Nat.le_add_right _ _⟩ ⟨_, rfl, (by omega), (by first | exact Or.inr ⟨i, ⟨by omega, by omega, by omega⟩, hn, rfl, e9⟩ | exact Or.inl ⟨rfl, rfl, fun q a b => hn q a (by omega)⟩)⟩
  exact loop2 _ 0 none (Nat.lt_succ_self _) (by omega) (fun q a b => by omega)

end
section
theorem CT.of {J' J : zJ} {m : Int} (h : CT J m) (e : ∀ c, c = 1 ∨ c = 3 ∨ c = 4 ∨ (7 ≤ c ∧ c ≤ 16) → J' c = J c) : CT J' m :=
  h.su (e 1 (by omega)) (e 3 (by omega)) (e 4 (by omega)) (e 16 (by omega)) ⟨fun t _ _ => ⟨congrFun (e 7 (by omega)) t, congrFun (e 8 (by omega)) t, congrFun (e 10 (by omega)) t, congrFun (e 11 (by omega)) t, congrFun (e 12 (by omega)) t, congrFun (e 13 (by omega)) t, congrFun (e 14 (by omega)) t, congrFun (e 15 (by omega)) t⟩, fun k _ _ => congrFun (e 9 (by omega)) k⟩
/-! the ring of undo rows -/
def zU (i : Int) : Nat := 21 + i.toNat
theorem zU_bn : ∀ i : Nat, i < 40 → tb_cB tb_shT 20 40 i (21 + i) = true := by decide +kernel
theorem zU_an : ∀ i : Nat, i < 40 → tb_cA tb_shT (21 + i) 61 = true := by decide +kernel
theorem zU_b {i : Int} (h : 0 ≤ i ∧ i < 40) : tb_cB tb_shT 20 40 i.toNat (zU i) = true := zU_bn i.toNat (by omega)
theorem zU_a {i : Int} (h : 0 ≤ i ∧ i < 40) : tb_cA tb_shT (zU i) 61 = true := zU_an i.toNat (by omega)
theorem zU_r {i : Int} (h : 0 ≤ i ∧ i < 40) : 21 ≤ zU i ∧ zU i < 61 := by unfold zU; omega
set_option maxHeartbeats 4000000 in
set_option maxRecDepth 100000 in
theorem c_begin {l : Launch} {G : tb_G} (hl : l.stackTraces = false) (n : Nat) (J : zJ)     : tz_Ok l G M_X0_begin 1 0 0 [.ref 5] n J (zqv (fun J' => zcp (zup J 19 0 (J 6 12)) 19 61 0 0 61 = J')) zN := by
  refine tz_Ok.of hl (by decide +kernel) rfl (tb_c1 rfl) (Nat.le_of_ble_eq_true rfl) ?_
  show tz_At l G M_X0_begin (tb_rm 1 0 0) none (tb_ZM G 0 0 (zQ n 0 (zqv (fun J' => zcp (zup J 19 0 (J 6 12)) 19 61 0 0 61 = J'))) (zX n 0 zN)) 0 0 n J 0 [some (.ref 5)] []
  refine tz_aload_n (pc := 0) dX0_begin_0 rfl rfl ?_
  refine tz_fR (pc := 1) dX0_begin_1 fl_X0_36 r_5_1 ?_
  refine tz_fR (pc := 4) dX0_begin_4 fl_X0_40 r_18_0 ?_
  refine tz_iconst (pc := 7) dX0_begin_7 ?_
  refine tz_aload_n (pc := 8) dX0_begin_8 rfl rfl ?_
  refine tz_fR (pc := 9) dX0_begin_9 fl_X0_32 r_5_0 ?_
  refine tz_fI (pc := 12) (kz := 12) (v := (J 6 12)) dX0_begin_12 fl_X0_43 i_6_12 rfl rfl (fun r_12 => ?_)
  refine tz_aS (pc := 15) (z := 0) dX0_begin_15 a_19 rfl (by decide) (by omega) ?_
  refine tz_aload_n (pc := 16) dX0_begin_16 rfl rfl ?_
  refine tz_fR (pc := 17) dX0_begin_17 fl_X0_36 r_5_1 ?_
  refine tz_fR (pc := 20) dX0_begin_20 fl_X0_40 r_18_0 ?_
  refine tz_iconst (pc := 23) dX0_begin_23 ?_
  refine tz_aload_n (pc := 24) dX0_begin_24 rfl rfl ?_
  refine tz_fR (pc := 25) dX0_begin_25 fl_X0_18 r_5_3 ?_
  refine tz_iconst (pc := 28) dX0_begin_28 ?_
  refine tz_bipush (pc := 29) dX0_begin_29 (by decide) ?_
  refine tz_cp (pc := 31) (sp := 0) (dp := 0) (ln := 61) dX0_begin_31 ml_X0_48 a_19 a_61 rfl rfl (by decide) (Nat.le_of_ble_eq_true rfl) (by decide +kernel) ?_
  exact tz_vret (pc := 34) dX0_begin_34 rfl (Nat.le_of_ble_eq_true rfl) (Nat.le_of_ble_eq_true rfl) ⟨Nat.le_refl _, Nat.le_add_right _ _⟩ ⟨rfl, rfl⟩

set_option maxHeartbeats 4000000 in
set_option maxRecDepth 100000 in
theorem c_forget {l : Launch} {G : tb_G} (hl : l.stackTraces = false) (n : Nat) (J : zJ)     : tz_Ok l G M_X0_forgetActs 0 0 0 [.ref 5] n J (zqv (fun J' => zup (zup J 5 6 0) 5 5 0 = J')) zN := by
  refine tz_Ok.of hl (by decide +kernel) rfl (tb_c1 rfl) (Nat.le_of_ble_eq_true rfl) ?_
  show tz_At l G M_X0_forgetActs (tb_rm 0 0 0) none (tb_ZM G 0 0 (zQ n 0 (zqv (fun J' => zup (zup J 5 6 0) 5 5 0 = J'))) (zX n 0 zN)) 0 0 n J 0 [some (.ref 5)] []
  refine tz_aload_n (pc := 0) dX0_forgetActs_0 rfl rfl ?_
  refine tz_iconst (pc := 1) dX0_forgetActs_1 ?_
  refine tz_pI (pc := 2) (kz := 6) dX0_forgetActs_2 fl_X0_29 i_5_6 rfl rfl (by decide) ?_
  refine tz_aload_n (pc := 5) dX0_forgetActs_5 rfl rfl ?_
  refine tz_iconst (pc := 6) dX0_forgetActs_6 ?_
  refine tz_pI (pc := 7) (kz := 5) dX0_forgetActs_7 fl_X0_25 i_5_5 rfl rfl (by decide) ?_
  exact tz_vret (pc := 10) dX0_forgetActs_10 rfl (Nat.le_of_ble_eq_true rfl) (Nat.le_of_ble_eq_true rfl) ⟨Nat.le_refl _, Nat.le_add_right _ _⟩ ⟨rfl, rfl⟩

set_option maxHeartbeats 4000000 in
set_option maxRecDepth 100000 in
theorem c_keepN {l : Launch} {G : tb_G} (hl : l.stackTraces = false) (n : Nat) (J : zJ)    (h6 : 0 ≤ J 5 6 ∧ J 5 6 < 40) (h5 : 0 ≤ J 5 5 ∧ J 5 5 < 40) : tz_Ok l G M_X0_keep 1 0 0 [.ref 5] n J (zqv (fun J' => zup (zcp J 61 (zU ((J 5 5 + J 5 6) % 40)) 0 0 61) 5 6 (J 5 6 + 1) = J')) zN := by
  refine tz_Ok.of hl (by decide +kernel) rfl (tb_c1 rfl) (Nat.le_of_ble_eq_true rfl) ?_
  show tz_At l G M_X0_keep (tb_rm 1 0 0) none (tb_ZM G 0 0 (zQ n 0 (zqv (fun J' => zup (zcp J 61 (zU ((J 5 5 + J 5 6) % 40)) 0 0 61) 5 6 (J 5 6 + 1) = J'))) (zX n 0 zN)) 0 0 n J 0 [some (.ref 5)] []
  refine tz_aload_n (pc := 0) dX0_keep_0 rfl rfl ?_
  refine tz_fI (pc := 1) (kz := 6) (v := (J 5 6)) dX0_keep_1 fl_X0_29 i_5_6 rfl rfl (fun r_1 => ?_)
  refine tz_bipush (pc := 4) dX0_keep_4 (by decide) ?_
  refine tz_icmp_neT (pc := 6) (tgt := 32) (by omega) dX0_keep_6 (by decide) (by omega) (by decide) ?_
  refine tz_aload_n (pc := 32) dX0_keep_32 rfl rfl ?_
  refine tz_fR (pc := 33) dX0_keep_33 fl_X0_18 r_5_3 ?_
  refine tz_iconst (pc := 36) dX0_keep_36 ?_
  refine tz_aload_n (pc := 37) dX0_keep_37 rfl rfl ?_
  refine tz_fR (pc := 38) dX0_keep_38 fl_X0_13 r_5_2 ?_
  refine tz_aload_n (pc := 41) dX0_keep_41 rfl rfl ?_
  refine tz_fI (pc := 42) (kz := 5) (v := (J 5 5)) dX0_keep_42 fl_X0_25 i_5_5 rfl rfl (fun r_42 => ?_)
  refine tz_aload_n (pc := 45) dX0_keep_45 rfl rfl ?_
  refine tz_fI (pc := 46) (kz := 6) (v := (J 5 6)) dX0_keep_46 fl_X0_29 i_5_6 rfl rfl (fun r_46 => ?_)
  refine tz_iadd (pc := 49) (v := (J 5 5) + (J 5 6)) dX0_keep_49 rfl ?_
  refine tz_bipush (pc := 50) dX0_keep_50 (by decide) ?_
  refine tz_irem (pc := 52) (a := ((J 5 5) + (J 5 6))) (b := 40) (v := (((J 5 5) + (J 5 6)) % 40)) dX0_keep_52 (by omega) (by omega) rfl ?_
  refine tz_aR (pc := 53) (z := (((J 5 5) + (J 5 6)) % 40)) (r := zU ((J 5 5 + J 5 6) % 40)) dX0_keep_53 (zU_b (by omega)) rfl (by omega) ?_
  refine tz_iconst (pc := 54) dX0_keep_54 ?_
  refine tz_bipush (pc := 55) dX0_keep_55 (by decide) ?_
  refine tz_cp (pc := 57) (sp := 0) (dp := 0) (ln := 61) dX0_keep_57 ml_X0_48 a_61 (zU_a (by omega)) rfl rfl (by decide) (Nat.le_of_ble_eq_true rfl) (by decide +kernel) ?_
  refine tz_aload_n (pc := 60) dX0_keep_60 rfl rfl ?_
  refine tz_dup (pc := 61) dX0_keep_61 rfl ?_
  refine tz_fI (pc := 62) (kz := 6) (v := (J 5 6)) dX0_keep_62 fl_X0_29 i_5_6 rfl (congrFun (zcp_nc (by have := zU_r (i := (J 5 5 + J 5 6) % 40) (by omega); omega)) 6) (fun r_62 => ?_)
  refine tz_iconst (pc := 65) dX0_keep_65 ?_
  refine tz_iadd (pc := 66) (v := (J 5 6) + 1) dX0_keep_66 rfl ?_
  refine tz_pI (pc := 67) (kz := 6) dX0_keep_67 fl_X0_29 i_5_6 rfl rfl (by omega) ?_
  exact tz_vret (pc := 70) dX0_keep_70 rfl (Nat.le_of_ble_eq_true rfl) (Nat.le_of_ble_eq_true rfl) ⟨Nat.le_refl _, Nat.le_add_right _ _⟩ ⟨rfl, rfl⟩

set_option maxHeartbeats 4000000 in
set_option maxRecDepth 100000 in
theorem c_keepF {l : Launch} {G : tb_G} (hl : l.stackTraces = false) (n : Nat) (J : zJ)    (h6 : J 5 6 = 40) (h5 : 0 ≤ J 5 5 ∧ J 5 5 < 40) : tz_Ok l G M_X0_keep 1 0 0 [.ref 5] n J (zqv (fun J' => zup (zcp (zup (zup J 5 5 ((J 5 5 + 1) % 40)) 5 6 39) 61 (zU (((J 5 5 + 1) % 40 + 39) % 40)) 0 0 61) 5 6 40 = J')) zN := by
  refine tz_Ok.of hl (by decide +kernel) rfl (tb_c1 rfl) (Nat.le_of_ble_eq_true rfl) ?_
  show tz_At l G M_X0_keep (tb_rm 1 0 0) none (tb_ZM G 0 0 (zQ n 0 (zqv (fun J' => zup (zcp (zup (zup J 5 5 ((J 5 5 + 1) % 40)) 5 6 39) 61 (zU (((J 5 5 + 1) % 40 + 39) % 40)) 0 0 61) 5 6 40 = J'))) (zX n 0 zN)) 0 0 n J 0 [some (.ref 5)] []
  refine tz_aload_n (pc := 0) dX0_keep_0 rfl rfl ?_
  refine tz_fI (pc := 1) (kz := 6) (v := 40) dX0_keep_1 fl_X0_29 i_5_6 rfl h6 (fun _ => ?_)
  refine tz_bipush (pc := 4) dX0_keep_4 (by decide) ?_
  refine tz_icmp_neF (pc := 6) (tgt := 32) (by decide) dX0_keep_6 (by decide) (by decide) (by decide) ?_
  refine tz_aload_n (pc := 9) dX0_keep_9 rfl rfl ?_
  refine tz_aload_n (pc := 10) dX0_keep_10 rfl rfl ?_
  refine tz_fI (pc := 11) (kz := 5) (v := (J 5 5)) dX0_keep_11 fl_X0_25 i_5_5 rfl rfl (fun r_11 => ?_)
  refine tz_iconst (pc := 14) dX0_keep_14 ?_
  refine tz_iadd (pc := 15) (v := (J 5 5) + 1) dX0_keep_15 rfl ?_
  refine tz_bipush (pc := 16) dX0_keep_16 (by decide) ?_
  refine tz_irem (pc := 18) (a := ((J 5 5) + 1)) (b := 40) (v := (((J 5 5) + 1) % 40)) dX0_keep_18 (by omega) (by omega) rfl ?_
  refine tz_pI (pc := 19) (kz := 5) dX0_keep_19 fl_X0_25 i_5_5 rfl rfl (by omega) ?_
  refine tz_aload_n (pc := 22) dX0_keep_22 rfl rfl ?_
  refine tz_dup (pc := 23) dX0_keep_23 rfl ?_
  refine tz_fI (pc := 24) (kz := 6) (v := 40) dX0_keep_24 fl_X0_29 i_5_6 rfl h6 (fun _ => ?_)
  refine tz_iconst (pc := 27) dX0_keep_27 ?_
  refine tz_isub (pc := 28) (v := 39) dX0_keep_28 (by decide) ?_
  refine tz_pI (pc := 29) (kz := 6) dX0_keep_29 fl_X0_29 i_5_6 rfl rfl (by decide) ?_
  refine tz_aload_n (pc := 32) dX0_keep_32 rfl rfl ?_
  refine tz_fR (pc := 33) dX0_keep_33 fl_X0_18 r_5_3 ?_
  refine tz_iconst (pc := 36) dX0_keep_36 ?_
  refine tz_aload_n (pc := 37) dX0_keep_37 rfl rfl ?_
  refine tz_fR (pc := 38) dX0_keep_38 fl_X0_13 r_5_2 ?_
  refine tz_aload_n (pc := 41) dX0_keep_41 rfl rfl ?_
  refine tz_fI (pc := 42) (kz := 5) (v := (((J 5 5) + 1) % 40)) dX0_keep_42 fl_X0_25 i_5_5 rfl rfl (fun r_42 => ?_)
  refine tz_aload_n (pc := 45) dX0_keep_45 rfl rfl ?_
  refine tz_fI (pc := 46) (kz := 6) (v := 39) dX0_keep_46 fl_X0_29 i_5_6 rfl rfl (fun _ => ?_)
  refine tz_iadd (pc := 49) (v := (((J 5 5) + 1) % 40) + 39) dX0_keep_49 rfl ?_
  refine tz_bipush (pc := 50) dX0_keep_50 (by decide) ?_
  refine tz_irem (pc := 52) (a := ((((J 5 5) + 1) % 40) + 39)) (b := 40) (v := (((((J 5 5) + 1) % 40) + 39) % 40)) dX0_keep_52 (by omega) (by omega) rfl ?_
  refine tz_aR (pc := 53) (z := (((((J 5 5) + 1) % 40) + 39) % 40)) (r := zU (((J 5 5 + 1) % 40 + 39) % 40)) dX0_keep_53 (zU_b (by omega)) rfl (by omega) ?_
  refine tz_iconst (pc := 54) dX0_keep_54 ?_
  refine tz_bipush (pc := 55) dX0_keep_55 (by decide) ?_
  refine tz_cp (pc := 57) (sp := 0) (dp := 0) (ln := 61) dX0_keep_57 ml_X0_48 a_61 (zU_a (by omega)) rfl rfl (by decide) (Nat.le_of_ble_eq_true rfl) (by decide +kernel) ?_
  refine tz_aload_n (pc := 60) dX0_keep_60 rfl rfl ?_
  refine tz_dup (pc := 61) dX0_keep_61 rfl ?_
  refine tz_fI (pc := 62) (kz := 6) (v := 39) dX0_keep_62 fl_X0_29 i_5_6 rfl ((congrFun (zcp_nc (by have := zU_r (i := ((J 5 5 + 1) % 40 + 39) % 40) (by omega); omega)) 6).trans zup_at) (fun _ => ?_)
  refine tz_iconst (pc := 65) dX0_keep_65 ?_
  refine tz_iadd (pc := 66) (v := 40) dX0_keep_66 (by decide) ?_
  refine tz_pI (pc := 67) (kz := 6) dX0_keep_67 fl_X0_29 i_5_6 rfl rfl (by decide) ?_
  exact tz_vret (pc := 70) dX0_keep_70 rfl (Nat.le_of_ble_eq_true rfl) (Nat.le_of_ble_eq_true rfl) ⟨Nat.le_refl _, Nat.le_add_right _ _⟩ ⟨rfl, rfl⟩

set_option maxHeartbeats 4000000 in
set_option maxRecDepth 100000 in
theorem c_takeBack {l : Launch} {G : tb_G} (hl : l.stackTraces = false) (n : Nat) (J : zJ)   (r : Nat) (m : Int) (hr : tb_cA tb_shT r 61 = true) (h9 : ¬ r = 19) (C : CT J m) (hm : J 6 12 = m) (hx : 0 ≤ J r 0 ∧ J r 0 ≤ m) : tz_Ok l G M_X0_takeBack 3 0 0 [.ref 5, .ref r] n J (zqv (fun J' => zOf (zbut [6, 16, 19]) J' J ∧ J' 19 = zcp J r 19 0 0 61 19 ∧ J' 6 12 = J r 0 ∧ CT J' (J r 0))) zN := by
  refine tz_Ok.of hl (by decide +kernel) rfl (tb_c1 rfl) (Nat.le_of_ble_eq_true rfl) ?_
  show tz_At l G M_X0_takeBack (tb_rm 3 0 0) none (tb_ZM G 0 0 (zQ n 0 (zqv (fun J' => zOf (zbut [6, 16, 19]) J' J ∧ J' 19 = zcp J r 19 0 0 61 19 ∧ J' 6 12 = J r 0 ∧ CT J' (J r 0)))) (zX n 0 zN)) 0 0 n J 0 [some (.ref 5), some (.ref r)] []
  have ht := C.told
  refine tz_aload_n (pc := 0) dX0_takeBack_0 rfl rfl ?_
  refine tz_iconst (pc := 1) dX0_takeBack_1 ?_
  refine tz_aload_n (pc := 2) dX0_takeBack_2 rfl rfl ?_
  refine tz_fR (pc := 3) dX0_takeBack_3 fl_X0_36 r_5_1 ?_
  refine tz_fR (pc := 6) dX0_takeBack_6 fl_X0_40 r_18_0 ?_
  refine tz_iconst (pc := 9) dX0_takeBack_9 ?_
  refine tz_bipush (pc := 10) dX0_takeBack_10 (by decide) ?_
  refine tz_cp (pc := 12) (sp := 0) (dp := 0) (ln := 61) dX0_takeBack_12 ml_X0_48 hr a_19 rfl rfl (by decide) (Nat.le_of_ble_eq_true rfl) (by decide +kernel) ?_
  refine tz_aload_n (pc := 15) dX0_takeBack_15 rfl rfl ?_
  refine tz_fR (pc := 16) dX0_takeBack_16 fl_X0_32 r_5_0 ?_
  refine tz_aload_n (pc := 19) dX0_takeBack_19 rfl rfl ?_
  refine tz_iconst (pc := 20) dX0_takeBack_20 ?_
  refine tz_aL (pc := 21) (z := 0) (v := (J r 0)) dX0_takeBack_21 hr rfl (by decide) (congrFun (zcp_nc h9) 0) (fun r_21 => ?_)
  refine tz_cV (pc := 22) (c_cutTo hl n _ _ (by omega) m (C.of (fun c hc => zcp_nc (by omega))) hm hx) vl_X0_58 dX0_takeBack_22 o_6 rfl rfl (Nat.le_of_ble_eq_true rfl) ⟨(Nat.le_of_ble_eq_true rfl), (Nat.le_of_ble_eq_true rfl)⟩ rfl rfl (Nat.le_of_ble_eq_true rfl) (Nat.le_of_ble_eq_true rfl) (fun r9 J_22 hq9 => ?_)
  obtain ⟨rfl, f1, f2, f3⟩ := hq9
  exact tz_vret (pc := 25) dX0_takeBack_25 rfl (Nat.le_of_ble_eq_true rfl) (Nat.le_of_ble_eq_true rfl) ⟨Nat.le_refl _, Nat.le_add_right _ _⟩ ⟨rfl, ⟨(zOf.mono f1 (fun c hc => by simp [zbut] at hc ⊢; omega)).tr (zOf.cp rfl zOf.rf), f1 19 rfl, f2, f3⟩⟩

end
