theorem z_5_5 : tb_I0 5 5 = 0 := by decide +kernel
theorem z_16_0 : tb_I0 16 0 = (-1) := by decide +kernel
theorem z_19_1 : tb_I0 19 1 = 4 := by decide +kernel
theorem z_19_2 : tb_I0 19 2 = 0 := by decide +kernel
theorem z_19_3 : tb_I0 19 3 = 0 := by decide +kernel
theorem z_19_7 : tb_I0 19 7 = (-1) := by decide +kernel
theorem z_19_8 : tb_I0 19 8 = (-1) := by decide +kernel
theorem z_19_9 : tb_I0 19 9 = (-1) := by decide +kernel
theorem z_19_10 : tb_I0 19 10 = (-1) := by decide +kernel
theorem z_19_11 : tb_I0 19 11 = (-1) := by decide +kernel
theorem z_19_12 : tb_I0 19 12 = (-1) := by decide +kernel
theorem z_19_13 : tb_I0 19 13 = (-1) := by decide +kernel
theorem z_19_14 : tb_I0 19 14 = (-1) := by decide +kernel
theorem z_62_0 : tb_I0 62 0 = 0 := by decide +kernel
theorem z_62_1 : tb_I0 62 1 = 0 := by decide +kernel
theorem z_62_2 : tb_I0 62 2 = 0 := by decide +kernel
theorem z_62_3 : tb_I0 62 3 = 0 := by decide +kernel
theorem zb164 {L : List Nat} (h : L.all (fun c => decide (c < 164)) = true) : ∀ c, zfrom 164 c = true → zbut L c = true := by
  intro c hc
  simp only [zfrom, decide_eq_true_eq] at hc
  simp only [zbut, Bool.not_eq_true', List.contains_eq_mem, decide_eq_false_iff_not]
  intro hm
  have := List.all_eq_true.mp h c hm
  simp only [decide_eq_true_eq] at this
  omega
theorem a_21 : tb_cA tb_shT 21 61 = true := by decide +kernel
set_option maxHeartbeats 4000000 in
set_option maxRecDepth 100000 in
theorem zc_syHas {l : Launch} {G : tb_G} (hl : l.stackTraces = false) (n : Nat) (J : zJ) (x : Int) (hr_x : -2147483648 ≤ x ∧ x < 2147483648)   : tz_Ok l G M_X8_has 0 0 0 [.ref 1, zi x] n J (zqi (fun z J' => J = J' ∧ (if 0 ≤ x ∧ x < J 1 3 then 1 else 0) = z)) zN := by
  refine tz_Ok.of hl (by decide +kernel) rfl (tb_c1 rfl) (Nat.le_of_ble_eq_true rfl) ?_
  show tz_At l G M_X8_has (tb_rm 0 0 0) none (tb_ZM G 0 0 (zQ n 0 (zqi (fun z J' => J = J' ∧ (if 0 ≤ x ∧ x < J 1 3 then 1 else 0) = z))) (zX n 0 zN)) 0 0 n J 0 [some (.ref 1), some (zi x)] []
  refine tz_iload_n (pc := 0) dX8_has_0 rfl rfl ?_
  refine tz_if_lt (pc := 1) (tgt := 16) dX8_has_1 (by decide) (by omega) (fun h_1 => ?_) (fun h_1 => ?_)
  · refine tz_iconst (pc := 16) dX8_has_16 ?_
    exact tz_zret (pc := 17) (z := 0) dX8_has_17 rfl (Or.inl rfl) (Nat.le_of_ble_eq_true rfl) (Nat.le_of_ble_eq_true rfl) ⟨Nat.le_refl _, Nat.le_add_right _ _⟩ ⟨_, rfl, (by decide), ⟨rfl, by split <;> omega⟩⟩
  · refine tz_iload_n (pc := 4) dX8_has_4 rfl rfl ?_
    refine tz_aload_n (pc := 5) dX8_has_5 rfl rfl ?_
    refine tz_fI (pc := 6) (kz := 3) (v := (J 1 3)) dX8_has_6 fl_X8_21 i_1_3 rfl rfl (fun r_6 => ?_)
    refine tz_icmp_ge (pc := 9) (tgt := 16) dX8_has_9 (by decide) (by omega) (by omega) (fun h_9 => ?_) (fun h_9 => ?_)
    · refine tz_iconst (pc := 16) dX8_has_16 ?_
      exact tz_zret (pc := 17) (z := 0) dX8_has_17 rfl (Or.inl rfl) (Nat.le_of_ble_eq_true rfl) (Nat.le_of_ble_eq_true rfl) ⟨Nat.le_refl _, Nat.le_add_right _ _⟩ ⟨_, rfl, (by decide), ⟨rfl, by split <;> omega⟩⟩
    · refine tz_iconst (pc := 12) dX8_has_12 ?_
      refine tz_goto (pc := 13) (tgt := 17) dX8_has_13 (by decide) ?_
      exact tz_zret (pc := 17) (z := 1) dX8_has_17 rfl (Or.inr rfl) (Nat.le_of_ble_eq_true rfl) (Nat.le_of_ble_eq_true rfl) ⟨Nat.le_refl _, Nat.le_add_right _ _⟩ ⟨_, rfl, (by decide), ⟨rfl, by split <;> omega⟩⟩

set_option maxHeartbeats 4000000 in
set_option maxRecDepth 100000 in
theorem zc_isVar {l : Launch} {G : tb_G} (hl : l.stackTraces = false) (n : Nat) (J : zJ) (t : Int) (hr_t : -2147483648 ≤ t ∧ t < 2147483648)  (h0 : 0 ≤ t ∧ t < 401) : tz_Ok l G M_X9_isVariable 0 0 0 [.ref 6, zi t] n J (zqi (fun z J' => J = J' ∧ (if J 7 t < 0 then 1 else 0) = z)) zN := by
  refine tz_Ok.of hl (by decide +kernel) rfl (tb_c1 rfl) (Nat.le_of_ble_eq_true rfl) ?_
  show tz_At l G M_X9_isVariable (tb_rm 0 0 0) none (tb_ZM G 0 0 (zQ n 0 (zqi (fun z J' => J = J' ∧ (if J 7 t < 0 then 1 else 0) = z))) (zX n 0 zN)) 0 0 n J 0 [some (.ref 6), some (zi t)] []
  refine tz_aload_n (pc := 0) dX9_isVariable_0 rfl rfl ?_
  refine tz_fR (pc := 1) dX9_isVariable_1 fl_X9_11 r_6_1 ?_
  refine tz_iload_n (pc := 4) dX9_isVariable_4 rfl rfl ?_
  refine tz_aL (pc := 5) (z := t) (v := (J 7 t)) dX9_isVariable_5 a_7 rfl (by omega) rfl (fun r_5 => ?_)
  refine tz_if_ge (pc := 6) (tgt := 13) dX9_isVariable_6 (by decide) (by omega) (fun h_6 => ?_) (fun h_6 => ?_)
  · refine tz_iconst (pc := 13) dX9_isVariable_13 ?_
    exact tz_zret (pc := 14) (z := 0) dX9_isVariable_14 rfl (Or.inl rfl) (Nat.le_of_ble_eq_true rfl) (Nat.le_of_ble_eq_true rfl) ⟨Nat.le_refl _, Nat.le_add_right _ _⟩ ⟨_, rfl, (by decide), ⟨rfl, by split <;> omega⟩⟩
  · refine tz_iconst (pc := 9) dX9_isVariable_9 ?_
    refine tz_goto (pc := 10) (tgt := 14) dX9_isVariable_10 (by decide) ?_
    exact tz_zret (pc := 14) (z := 1) dX9_isVariable_14 rfl (Or.inr rfl) (Nat.le_of_ble_eq_true rfl) (Nat.le_of_ble_eq_true rfl) ⟨Nat.le_refl _, Nat.le_add_right _ _⟩ ⟨_, rfl, (by decide), ⟨rfl, by split <;> omega⟩⟩

def zTV (m : Int) (J : zJ) : Prop := (J 1 3 = 0 ∧ J 6 12 = m) ∧ (0 ≤ m ∧ m ≤ 30) ∧ (-1 ≤ J 16 0 ∧ J 16 0 < m) ∧ ∀ t, 0 ≤ t → t < m → (J 7 t < 0 ∧ J 8 t = 0 ∧ J 11 t = 1) ∧ -1 ≤ J 15 t ∧ J 15 t < m
set_option maxHeartbeats 4000000 in
set_option maxRecDepth 100000 in
theorem zc1_bucket {l : Launch} {G : tb_G} (hl : l.stackTraces = false) (n : Nat) (J : zJ) (t : Int) (hr_t : -2147483648 ≤ t ∧ t < 2147483648)  (h0 : 0 ≤ t ∧ t < 401) (h1 : J 7 t < 0) (h2 : J 8 t = 0) : tz_Ok l G M_X9_bucketOf 1 0 0 [.ref 6, zi t] n J (zqi (fun z J' => J = J' ∧ 0 = z)) zN := by
  refine tz_Ok.of hl (by decide +kernel) rfl (tb_c1 rfl) (Nat.le_of_ble_eq_true rfl) ?_
  show tz_At l G M_X9_bucketOf (tb_rm 1 0 0) none (tb_ZM G 0 0 (zQ n 0 (zqi (fun z J' => J = J' ∧ 0 = z))) (zX n 0 zN)) 0 0 n J 0 [some (.ref 6), some (zi t), none, none] []
  refine tz_aload_n (pc := 0) dX9_bucketOf_0 rfl rfl ?_
  refine tz_fR (pc := 1) dX9_bucketOf_1 fl_X9_11 r_6_1 ?_
  refine tz_iload_n (pc := 4) dX9_bucketOf_4 rfl rfl ?_
  refine tz_aL (pc := 5) (z := t) (v := (J 7 t)) dX9_bucketOf_5 a_7 rfl (by omega) rfl (fun r_5 => ?_)
  refine tz_iconst (pc := 6) dX9_bucketOf_6 ?_
  refine tz_mx (pc := 7) (v := -1) dX9_bucketOf_7 ml_X9_86 (Nat.le_of_ble_eq_true rfl) (Nat.le_of_ble_eq_true rfl) (Nat.le_of_ble_eq_true rfl) (Nat.le_of_ble_eq_true rfl) (by omega) (by decide) (by split <;> omega) ?_
  refine tz_istore_n (pc := 10) (L2 := [_, _, _, _]) dX9_bucketOf_10 rfl (by decide) rfl ?_
  refine tz_iconst (pc := 11) dX9_bucketOf_11 ?_
  refine tz_istore_n (pc := 12) (L2 := [_, _, _, _]) dX9_bucketOf_12 rfl (by decide) rfl ?_
  refine tz_iload_n (pc := 13) dX9_bucketOf_13 rfl rfl ?_
  refine tz_aload_n (pc := 14) dX9_bucketOf_14 rfl rfl ?_
  refine tz_fR (pc := 15) dX9_bucketOf_15 fl_X9_15 r_6_2 ?_
  refine tz_iload_n (pc := 18) dX9_bucketOf_18 rfl rfl ?_
  refine tz_aL (pc := 19) (z := t) (v := 0) dX9_bucketOf_19 a_8 rfl (by omega) h2 (fun _ => ?_)
  refine tz_icmp_geT (pc := 20) (tgt := 50) (by decide) dX9_bucketOf_20 (by decide) (by decide) (by decide) ?_
  refine tz_iload_n (pc := 50) dX9_bucketOf_50 rfl rfl ?_
  refine tz_iload_n (pc := 51) dX9_bucketOf_51 rfl rfl ?_
  refine tz_bipush (pc := 52) dX9_bucketOf_52 (by decide) ?_
  refine tz_iushr (pc := 54) (v := 16777215) dX9_bucketOf_54 (by decide) ?_
  refine tz_ixor (pc := 55) (v := -16777216) dX9_bucketOf_55 (by decide) ?_
  refine tz_sipush (pc := 56) dX9_bucketOf_56 (by decide) ?_
  refine tz_iand (pc := 59) (v := 0) dX9_bucketOf_59 (by decide) ?_
  exact tz_iret (pc := 60) (z := 0) dX9_bucketOf_60 rfl (Nat.le_of_ble_eq_true rfl) (Nat.le_of_ble_eq_true rfl) ⟨Nat.le_refl _, Nat.le_add_right _ _⟩ ⟨_, rfl, (by decide), ⟨rfl, rfl⟩⟩

set_option maxHeartbeats 4000000 in
set_option maxRecDepth 100000 in
theorem zc1_same {l : Launch} {G : tb_G} (hl : l.stackTraces = false) (n : Nat) (J : zJ) (s : Int) (t : Int) (hr_s : -2147483648 ≤ s ∧ s < 2147483648) (hr_t : -2147483648 ≤ t ∧ t < 2147483648)  (h0 : 0 ≤ t ∧ t < 401) (h1 : 0 ≤ s ∧ s < 401) (h2 : J 8 t = 0) : tz_Ok l G M_X9_isSame 0 0 0 [.ref 6, zi s, zi t] n J (zqi (fun z J' => J = J' ∧ (if J 7 s = J 7 t then 1 else 0) = z)) zN := by
  refine tz_Ok.of hl (by decide +kernel) rfl (tb_c1 rfl) (Nat.le_of_ble_eq_true rfl) ?_
  show tz_At l G M_X9_isSame (tb_rm 0 0 0) none (tb_ZM G 0 0 (zQ n 0 (zqi (fun z J' => J = J' ∧ (if J 7 s = J 7 t then 1 else 0) = z))) (zX n 0 zN)) 0 0 n J 0 [some (.ref 6), some (zi s), some (zi t), none, none] []
  refine tz_aload_n (pc := 0) dX9_isSame_0 rfl rfl ?_
  refine tz_fR (pc := 1) dX9_isSame_1 fl_X9_11 r_6_1 ?_
  refine tz_iload_n (pc := 4) dX9_isSame_4 rfl rfl ?_
  refine tz_aL (pc := 5) (z := s) (v := (J 7 s)) dX9_isSame_5 a_7 rfl (by omega) rfl (fun r_5 => ?_)
  refine tz_aload_n (pc := 6) dX9_isSame_6 rfl rfl ?_
  refine tz_fR (pc := 7) dX9_isSame_7 fl_X9_11 r_6_1 ?_
  refine tz_iload_n (pc := 10) dX9_isSame_10 rfl rfl ?_
  refine tz_aL (pc := 11) (z := t) (v := (J 7 t)) dX9_isSame_11 a_7 rfl (by omega) rfl (fun r_11 => ?_)
  refine tz_icmp_ne (pc := 12) (tgt := 19) dX9_isSame_12 (by decide) (by omega) (by omega) (fun h_12 => ?_) (fun h_12 => ?_)
  · refine tz_iconst (pc := 19) dX9_isSame_19 ?_
    refine tz_istore_n (pc := 20) (L2 := [_, _, _, _, _]) dX9_isSame_20 rfl (by decide) rfl ?_
    refine tz_iconst (pc := 21) dX9_isSame_21 ?_
    refine tz_istore (pc := 22) (L2 := [_, _, _, _, _]) dX9_isSame_22 (by decide) rfl ?_
    refine tz_iload (pc := 24) dX9_isSame_24 rfl ?_
    refine tz_aload_n (pc := 26) dX9_isSame_26 rfl rfl ?_
    refine tz_fR (pc := 27) dX9_isSame_27 fl_X9_15 r_6_2 ?_
    refine tz_iload_n (pc := 30) dX9_isSame_30 rfl rfl ?_
    refine tz_aL (pc := 31) (z := t) (v := 0) dX9_isSame_31 a_8 rfl (by omega) h2 (fun _ => ?_)
    refine tz_icmp_geT (pc := 32) (tgt := 76) (by decide) dX9_isSame_32 (by decide) (by decide) (by decide) ?_
    refine tz_iload_n (pc := 76) dX9_isSame_76 rfl rfl ?_
    exact tz_zret (pc := 77) (z := 0) dX9_isSame_77 rfl (Or.inl rfl) (Nat.le_of_ble_eq_true rfl) (Nat.le_of_ble_eq_true rfl) ⟨Nat.le_refl _, Nat.le_add_right _ _⟩ ⟨_, rfl, (by decide), ⟨rfl, by split <;> omega⟩⟩
  · refine tz_iconst (pc := 15) dX9_isSame_15 ?_
    refine tz_goto (pc := 16) (tgt := 20) dX9_isSame_16 (by decide) ?_
    refine tz_istore_n (pc := 20) (L2 := [_, _, _, _, _]) dX9_isSame_20 rfl (by decide) rfl ?_
    refine tz_iconst (pc := 21) dX9_isSame_21 ?_
    refine tz_istore (pc := 22) (L2 := [_, _, _, _, _]) dX9_isSame_22 (by decide) rfl ?_
    refine tz_iload (pc := 24) dX9_isSame_24 rfl ?_
    refine tz_aload_n (pc := 26) dX9_isSame_26 rfl rfl ?_
    refine tz_fR (pc := 27) dX9_isSame_27 fl_X9_15 r_6_2 ?_
    refine tz_iload_n (pc := 30) dX9_isSame_30 rfl rfl ?_
    refine tz_aL (pc := 31) (z := t) (v := 0) dX9_isSame_31 a_8 rfl (by omega) h2 (fun _ => ?_)
    refine tz_icmp_geT (pc := 32) (tgt := 76) (by decide) dX9_isSame_32 (by decide) (by decide) (by decide) ?_
    refine tz_iload_n (pc := 76) dX9_isSame_76 rfl rfl ?_
    exact tz_zret (pc := 77) (z := 1) dX9_isSame_77 rfl (Or.inr rfl) (Nat.le_of_ble_eq_true rfl) (Nat.le_of_ble_eq_true rfl) ⟨Nat.le_refl _, Nat.le_add_right _ _⟩ ⟨_, rfl, (by decide), ⟨rfl, by split <;> omega⟩⟩

set_option maxHeartbeats 4000000 in
set_option maxRecDepth 100000 in
theorem zc1_shape {l : Launch} {G : tb_G} (hl : l.stackTraces = false) (n : Nat) (J : zJ) (s : Int) (t : Int) (hr_s : -2147483648 ≤ s ∧ s < 2147483648) (hr_t : -2147483648 ≤ t ∧ t < 2147483648)  (h0 : 0 ≤ t ∧ t < 401) (h1 : 0 ≤ s ∧ s < 401) (h2 : J 8 t = 0) : tz_Ok l G M_X9_hasShapeOf 0 0 0 [.ref 6, zi s, zi t] n J (zqi (fun z J' => J = J')) zN := by
  refine tz_Ok.of hl (by decide +kernel) rfl (tb_c1 rfl) (Nat.le_of_ble_eq_true rfl) ?_
  show tz_At l G M_X9_hasShapeOf (tb_rm 0 0 0) none (tb_ZM G 0 0 (zQ n 0 (zqi (fun z J' => J = J'))) (zX n 0 zN)) 0 0 n J 0 [some (.ref 6), some (zi s), some (zi t), none, none] []
  refine tz_aload_n (pc := 0) dX9_hasShapeOf_0 rfl rfl ?_
  refine tz_fR (pc := 1) dX9_hasShapeOf_1 fl_X9_11 r_6_1 ?_
  refine tz_iload_n (pc := 4) dX9_hasShapeOf_4 rfl rfl ?_
  refine tz_aL (pc := 5) (z := s) (v := (J 7 s)) dX9_hasShapeOf_5 a_7 rfl (by omega) rfl (fun r_5 => ?_)
  refine tz_aload_n (pc := 6) dX9_hasShapeOf_6 rfl rfl ?_
  refine tz_fR (pc := 7) dX9_hasShapeOf_7 fl_X9_11 r_6_1 ?_
  refine tz_iload_n (pc := 10) dX9_hasShapeOf_10 rfl rfl ?_
  refine tz_aL (pc := 11) (z := t) (v := (J 7 t)) dX9_hasShapeOf_11 a_7 rfl (by omega) rfl (fun r_11 => ?_)
  refine tz_icmp_eq (pc := 12) (tgt := 33) dX9_hasShapeOf_12 (by decide) (by omega) (by omega) (fun h_12 => ?_) (fun h_12 => ?_)
  · refine tz_iconst (pc := 33) dX9_hasShapeOf_33 ?_
    refine tz_goto (pc := 34) (tgt := 38) dX9_hasShapeOf_34 (by decide) ?_
    refine tz_istore_n (pc := 38) (L2 := [_, _, _, _, _]) dX9_hasShapeOf_38 rfl (by decide) rfl ?_
    refine tz_iconst (pc := 39) dX9_hasShapeOf_39 ?_
    refine tz_istore (pc := 40) (L2 := [_, _, _, _, _]) dX9_hasShapeOf_40 (by decide) rfl ?_
    refine tz_iload (pc := 42) dX9_hasShapeOf_42 rfl ?_
    refine tz_aload_n (pc := 44) dX9_hasShapeOf_44 rfl rfl ?_
    refine tz_fR (pc := 45) dX9_hasShapeOf_45 fl_X9_15 r_6_2 ?_
    refine tz_iload_n (pc := 48) dX9_hasShapeOf_48 rfl rfl ?_
    refine tz_aL (pc := 49) (z := t) (v := 0) dX9_hasShapeOf_49 a_8 rfl (by omega) h2 (fun _ => ?_)
    refine tz_icmp_geT (pc := 50) (tgt := 104) (by decide) dX9_hasShapeOf_50 (by decide) (by decide) (by decide) ?_
    refine tz_iload_n (pc := 104) dX9_hasShapeOf_104 rfl rfl ?_
    exact tz_zret (pc := 105) (z := 1) dX9_hasShapeOf_105 rfl (Or.inr rfl) (Nat.le_of_ble_eq_true rfl) (Nat.le_of_ble_eq_true rfl) ⟨Nat.le_refl _, Nat.le_add_right _ _⟩ ⟨_, rfl, (by decide), rfl⟩
  · refine tz_aload_n (pc := 15) dX9_hasShapeOf_15 rfl rfl ?_
    refine tz_fR (pc := 16) dX9_hasShapeOf_16 fl_X9_11 r_6_1 ?_
    refine tz_iload_n (pc := 19) dX9_hasShapeOf_19 rfl rfl ?_
    refine tz_aL (pc := 20) (z := s) (v := (J 7 s)) dX9_hasShapeOf_20 a_7 rfl (by omega) rfl (fun r_20 => ?_)
    refine tz_if_ge (pc := 21) (tgt := 37) dX9_hasShapeOf_21 (by decide) (by omega) (fun h_21 => ?_) (fun h_21 => ?_)
    · refine tz_iconst (pc := 37) dX9_hasShapeOf_37 ?_
      refine tz_istore_n (pc := 38) (L2 := [_, _, _, _, _]) dX9_hasShapeOf_38 rfl (by decide) rfl ?_
      refine tz_iconst (pc := 39) dX9_hasShapeOf_39 ?_
      refine tz_istore (pc := 40) (L2 := [_, _, _, _, _]) dX9_hasShapeOf_40 (by decide) rfl ?_
      refine tz_iload (pc := 42) dX9_hasShapeOf_42 rfl ?_
      refine tz_aload_n (pc := 44) dX9_hasShapeOf_44 rfl rfl ?_
      refine tz_fR (pc := 45) dX9_hasShapeOf_45 fl_X9_15 r_6_2 ?_
      refine tz_iload_n (pc := 48) dX9_hasShapeOf_48 rfl rfl ?_
      refine tz_aL (pc := 49) (z := t) (v := 0) dX9_hasShapeOf_49 a_8 rfl (by omega) h2 (fun _ => ?_)
      refine tz_icmp_geT (pc := 50) (tgt := 104) (by decide) dX9_hasShapeOf_50 (by decide) (by decide) (by decide) ?_
      refine tz_iload_n (pc := 104) dX9_hasShapeOf_104 rfl rfl ?_
      exact tz_zret (pc := 105) (z := 0) dX9_hasShapeOf_105 rfl (Or.inl rfl) (Nat.le_of_ble_eq_true rfl) (Nat.le_of_ble_eq_true rfl) ⟨Nat.le_refl _, Nat.le_add_right _ _⟩ ⟨_, rfl, (by decide), rfl⟩
    · refine tz_aload_n (pc := 24) dX9_hasShapeOf_24 rfl rfl ?_
      refine tz_fR (pc := 25) dX9_hasShapeOf_25 fl_X9_11 r_6_1 ?_
      refine tz_iload_n (pc := 28) dX9_hasShapeOf_28 rfl rfl ?_
      refine tz_aL (pc := 29) (z := t) (v := (J 7 t)) dX9_hasShapeOf_29 a_7 rfl (by omega) rfl (fun r_29 => ?_)
      refine tz_if_ge (pc := 30) (tgt := 37) dX9_hasShapeOf_30 (by decide) (by omega) (fun h_30 => ?_) (fun h_30 => ?_)
      · refine tz_iconst (pc := 37) dX9_hasShapeOf_37 ?_
        refine tz_istore_n (pc := 38) (L2 := [_, _, _, _, _]) dX9_hasShapeOf_38 rfl (by decide) rfl ?_
        refine tz_iconst (pc := 39) dX9_hasShapeOf_39 ?_
        refine tz_istore (pc := 40) (L2 := [_, _, _, _, _]) dX9_hasShapeOf_40 (by decide) rfl ?_
        refine tz_iload (pc := 42) dX9_hasShapeOf_42 rfl ?_
        refine tz_aload_n (pc := 44) dX9_hasShapeOf_44 rfl rfl ?_
        refine tz_fR (pc := 45) dX9_hasShapeOf_45 fl_X9_15 r_6_2 ?_
        refine tz_iload_n (pc := 48) dX9_hasShapeOf_48 rfl rfl ?_
        refine tz_aL (pc := 49) (z := t) (v := 0) dX9_hasShapeOf_49 a_8 rfl (by omega) h2 (fun _ => ?_)
        refine tz_icmp_geT (pc := 50) (tgt := 104) (by decide) dX9_hasShapeOf_50 (by decide) (by decide) (by decide) ?_
        refine tz_iload_n (pc := 104) dX9_hasShapeOf_104 rfl rfl ?_
        exact tz_zret (pc := 105) (z := 0) dX9_hasShapeOf_105 rfl (Or.inl rfl) (Nat.le_of_ble_eq_true rfl) (Nat.le_of_ble_eq_true rfl) ⟨Nat.le_refl _, Nat.le_add_right _ _⟩ ⟨_, rfl, (by decide), rfl⟩
      · refine tz_iconst (pc := 33) dX9_hasShapeOf_33 ?_
        refine tz_goto (pc := 34) (tgt := 38) dX9_hasShapeOf_34 (by decide) ?_
        refine tz_istore_n (pc := 38) (L2 := [_, _, _, _, _]) dX9_hasShapeOf_38 rfl (by decide) rfl ?_
        refine tz_iconst (pc := 39) dX9_hasShapeOf_39 ?_
        refine tz_istore (pc := 40) (L2 := [_, _, _, _, _]) dX9_hasShapeOf_40 (by decide) rfl ?_
        refine tz_iload (pc := 42) dX9_hasShapeOf_42 rfl ?_
        refine tz_aload_n (pc := 44) dX9_hasShapeOf_44 rfl rfl ?_
        refine tz_fR (pc := 45) dX9_hasShapeOf_45 fl_X9_15 r_6_2 ?_
        refine tz_iload_n (pc := 48) dX9_hasShapeOf_48 rfl rfl ?_
        refine tz_aL (pc := 49) (z := t) (v := 0) dX9_hasShapeOf_49 a_8 rfl (by omega) h2 (fun _ => ?_)
        refine tz_icmp_geT (pc := 50) (tgt := 104) (by decide) dX9_hasShapeOf_50 (by decide) (by decide) (by decide) ?_
        refine tz_iload_n (pc := 104) dX9_hasShapeOf_104 rfl rfl ?_
        exact tz_zret (pc := 105) (z := 1) dX9_hasShapeOf_105 rfl (Or.inr rfl) (Nat.le_of_ble_eq_true rfl) (Nat.le_of_ble_eq_true rfl) ⟨Nat.le_refl _, Nat.le_add_right _ _⟩ ⟨_, rfl, (by decide), rfl⟩

set_option maxHeartbeats 4000000 in
set_option maxRecDepth 100000 in
theorem zc1_measure {l : Launch} {G : tb_G} (hl : l.stackTraces = false) (n : Nat) (J : zJ) (t : Int) (hr_t : -2147483648 ≤ t ∧ t < 2147483648)  (h0 : 0 ≤ t ∧ t < 401) (h1 : J 7 t < 0) (h2 : J 8 t = 0) : tz_Ok l G M_X9_measure 0 0 0 [.ref 6, zi t] n J (zqv (fun J' => zup (zup (zup J 10 t 1) 12 t 1) 13 t (zshl 1 (zxor (J 7 t) (-1))) = J')) zN := by
  refine tz_Ok.of hl (by decide +kernel) rfl (tb_c1 rfl) (Nat.le_of_ble_eq_true rfl) ?_
  show tz_At l G M_X9_measure (tb_rm 0 0 0) none (tb_ZM G 0 0 (zQ n 0 (zqv (fun J' => zup (zup (zup J 10 t 1) 12 t 1) 13 t (zshl 1 (zxor (J 7 t) (-1))) = J'))) (zX n 0 zN)) 0 0 n J 0 [some (.ref 6), some (zi t), none, none] []
  refine tz_aload_n (pc := 0) dX9_measure_0 rfl rfl ?_
  refine tz_fR (pc := 1) dX9_measure_1 fl_X9_21 r_6_4 ?_
  refine tz_iload_n (pc := 4) dX9_measure_4 rfl rfl ?_
  refine tz_iconst (pc := 5) dX9_measure_5 ?_
  refine tz_aS (pc := 6) (z := t) dX9_measure_6 a_10 rfl (by omega) (by decide) ?_
  refine tz_aload_n (pc := 7) dX9_measure_7 rfl rfl ?_
  refine tz_fR (pc := 8) dX9_measure_8 fl_X9_27 r_6_6 ?_
  refine tz_iload_n (pc := 11) dX9_measure_11 rfl rfl ?_
  refine tz_iconst (pc := 12) dX9_measure_12 ?_
  refine tz_aS (pc := 13) (z := t) dX9_measure_13 a_12 rfl (by omega) (by decide) ?_
  refine tz_aload_n (pc := 14) dX9_measure_14 rfl rfl ?_
  refine tz_fR (pc := 15) dX9_measure_15 fl_X9_30 r_6_7 ?_
  refine tz_iload_n (pc := 18) dX9_measure_18 rfl rfl ?_
  refine tz_aload_n (pc := 19) dX9_measure_19 rfl rfl ?_
  refine tz_fR (pc := 20) dX9_measure_20 fl_X9_11 r_6_1 ?_
  refine tz_iload_n (pc := 23) dX9_measure_23 rfl rfl ?_
  refine tz_aL (pc := 24) (z := t) (v := (J 7 t)) dX9_measure_24 a_7 rfl (by omega) rfl (fun r_24 => ?_)
  refine tz_if_geF (pc := 25) (tgt := 41) (by omega) dX9_measure_25 (by decide) (by omega) ?_
  refine tz_iconst (pc := 28) dX9_measure_28 ?_
  refine tz_aload_n (pc := 29) dX9_measure_29 rfl rfl ?_
  refine tz_fR (pc := 30) dX9_measure_30 fl_X9_11 r_6_1 ?_
  refine tz_iload_n (pc := 33) dX9_measure_33 rfl rfl ?_
  refine tz_aL (pc := 34) (z := t) (v := (J 7 t)) dX9_measure_34 a_7 rfl (by omega) rfl (fun r_34 => ?_)
  refine tz_iconst (pc := 35) dX9_measure_35 ?_
  refine tz_ixor (pc := 36) (v := zxor (J 7 t) (-1)) dX9_measure_36 rfl ?_
  refine tz_ishl (pc := 37) (v := zshl 1 (zxor (J 7 t) (-1))) dX9_measure_37 rfl ?_
  refine tz_goto (pc := 38) (tgt := 42) dX9_measure_38 (by decide) ?_
  refine tz_aS (pc := 42) (z := t) dX9_measure_42 a_13 rfl (by omega) (zshl_rg _ _) ?_
  refine tz_iconst (pc := 43) dX9_measure_43 ?_
  refine tz_istore_n (pc := 44) (L2 := [_, _, _, _]) dX9_measure_44 rfl (by decide) rfl ?_
  refine tz_iload_n (pc := 45) dX9_measure_45 rfl rfl ?_
  refine tz_aload_n (pc := 46) dX9_measure_46 rfl rfl ?_
  refine tz_fR (pc := 47) dX9_measure_47 fl_X9_15 r_6_2 ?_
  refine tz_iload_n (pc := 50) dX9_measure_50 rfl rfl ?_
  refine tz_aL (pc := 51) (z := t) (v := 0) dX9_measure_51 a_8 rfl (by omega) h2 (fun _ => ?_)
  refine tz_icmp_geT (pc := 52) (tgt := 140) (by decide) dX9_measure_52 (by decide) (by decide) (by decide) ?_
  exact tz_vret (pc := 140) dX9_measure_140 rfl (Nat.le_of_ble_eq_true rfl) (Nat.le_of_ble_eq_true rfl) ⟨Nat.le_refl _, Nat.le_add_right _ _⟩ ⟨rfl, rfl⟩

theorem zc1_keep {J J1 : zJ} {m h : Int} (TV : zTV m J) (fr : zOf (zbut [14]) J1 (zup (zup (zup (zup (zup (zup (zup J 7 m h) 8 m 0) 11 m 1) 9 (m * 3) (-1)) 9 ((m * 3) + 1) (-1)) 9 ((m * 3) + 2) (-1)) 14 m m)) : zTV m J1 ∧ zOf (zbut [6, 7, 8, 9, 10, 11, 12, 13, 14, 15, 16, 17]) J1 J := by
  obtain ⟨⟨h1, h2⟩, h3, h4, h5⟩ := TV
  have e1 : J1 1 = J 1 := fr 1 rfl
  have e6 : J1 6 = J 6 := fr 6 rfl
  have e16 : J1 16 = J 16 := fr 16 rfl
  have e15 : J1 15 = J 15 := fr 15 rfl
  have e7 : ∀ t, t < m → J1 7 t = J 7 t := fun t ht => by
    rw [show J1 7 = _ from fr 7 rfl]
    show (if t = m then h else J 7 t) = J 7 t
    rw [if_neg (by omega)]
  have e8 : ∀ t, t < m → J1 8 t = J 8 t := fun t ht => by
    rw [show J1 8 = _ from fr 8 rfl]
    show (if t = m then 0 else J 8 t) = J 8 t
    rw [if_neg (by omega)]
  have e11 : ∀ t, t < m → J1 11 t = J 11 t := fun t ht => by
    rw [show J1 11 = _ from fr 11 rfl]
    show (if t = m then 1 else J 11 t) = J 11 t
    rw [if_neg (by omega)]
  refine ⟨⟨⟨by rw [e1, h1], by rw [e6, h2]⟩, h3, by rw [e16]; exact h4, fun t ha hb => ?_⟩, fun c hc => ?_⟩
  · rw [e7 t hb, e8 t hb, e11 t hb, e15]
    exact h5 t ha hb
  · have hc14 : zbut [14] c = true := by
      simp [zbut] at hc ⊢
      omega
    refine (fr c hc14).trans ?_
    simp [zbut] at hc
    simp [zup, hc]
theorem zc1_fin {J J1 : zJ} {m h v : Int} (TV : zTV m J) (hm9 : m ≤ 29) (hh9 : -8 ≤ h ∧ h < 0) (fr : zOf (zbut [14]) J1 (zup (zup (zup (zup (zup (zup (zup J 7 m h) 8 m 0) 11 m 1) 9 (m * 3) (-1)) 9 ((m * 3) + 1) (-1)) 9 ((m * 3) + 2) (-1)) 14 m m)) : zTV (m + 1) (zup (zup (zup (zup (zup (zup J1 10 m 1) 12 m 1) 13 m v) 15 m (J 16 0)) 16 0 m) 6 12 (m + 1)) ∧ (m ≤ m + 1 ∧ m + 1 ≤ m + 1 ∧ 0 ≤ m ∧ m < m + 1) ∧ zOf (zbut [6, 7, 8, 9, 10, 11, 12, 13, 14, 15, 16, 17]) (zup (zup (zup (zup (zup (zup J1 10 m 1) 12 m 1) 13 m v) 15 m (J 16 0)) 16 0 m) 6 12 (m + 1)) J := by
  obtain ⟨TV1, fr1⟩ := zc1_keep TV fr
  obtain ⟨⟨h1, h2⟩, h3, h4, h5⟩ := TV1
  have g7 : J1 7 m = h := by
    rw [show J1 7 = _ from fr 7 rfl]
    show (if m = m then h else J 7 m) = h
    rw [if_pos rfl]
  have g8 : J1 8 m = 0 := by
    rw [show J1 8 = _ from fr 8 rfl]
    show (if m = m then 0 else J 8 m) = 0
    rw [if_pos rfl]
  have g11 : J1 11 m = 1 := by
    rw [show J1 11 = _ from fr 11 rfl]
    show (if m = m then 1 else J 11 m) = 1
    rw [if_pos rfl]
  obtain ⟨-, -, h6, -⟩ := TV
  refine ⟨⟨⟨h1, rfl⟩, by omega, by show -1 ≤ m ∧ m < m + 1; omega, fun t ha hb => ?_⟩, by omega, ?_⟩
  · show (J1 7 t < 0 ∧ J1 8 t = 0 ∧ J1 11 t = 1) ∧ -1 ≤ (if t = m then J 16 0 else J1 15 t) ∧ (if t = m then J 16 0 else J1 15 t) < m + 1
    by_cases e : t = m
    · subst e
      rw [g7, g8, g11, if_pos rfl]
      omega
    · rw [if_neg e]
      obtain ⟨a1, a2⟩ := h5 t ha (by omega)
      exact ⟨a1, by omega⟩
  · exact zOf.up rfl (zOf.up rfl (zOf.up rfl (zOf.up rfl (zOf.up rfl (zOf.up rfl fr1)))))
theorem z_lt1 {a b c : Int} (h : a = b) (h2 : b < c) : a < c := by omega
set_option maxHeartbeats 4000000 in
set_option maxRecDepth 100000 in
theorem zc1_made {l : Launch} {G : tb_G} (hl : l.stackTraces = false) (n : Nat) (J : zJ) (h : Int) (hr_h : -2147483648 ≤ h ∧ h < 2147483648) (m : Int) (TV : zTV m J) (hm9 : m ≤ 29) (hh9 : -8 ≤ h ∧ h < 0) : tz_Ok l G M_X9_made 2 0 0 [.ref 6, zi h, zi (-1), zi (-1), zi (-1)] n J (zqi (fun z J' => ∃ m', zTV m' J' ∧ (m ≤ m' ∧ m' ≤ m + 1 ∧ 0 ≤ z ∧ z < m') ∧ zOf (zbut [6, 7, 8, 9, 10, 11, 12, 13, 14, 15, 16, 17]) J' J)) zN := by
  refine tz_Ok.of hl (by decide +kernel) rfl (tb_c1 rfl) (Nat.le_of_ble_eq_true rfl) ?_
  show tz_At l G M_X9_made (tb_rm 2 0 0) none (tb_ZM G 0 0 (zQ n 0 (zqi (fun z J' => ∃ m', zTV m' J' ∧ (m ≤ m' ∧ m' ≤ m + 1 ∧ 0 ≤ z ∧ z < m') ∧ zOf (zbut [6, 7, 8, 9, 10, 11, 12, 13, 14, 15, 16, 17]) J' J))) (zX n 0 zN)) 0 0 n J 0 [some (.ref 6), some (zi h), some (zi (-1)), some (zi (-1)), some (zi (-1)), none, none, none, none, none, none] []
  have hm := TV.2.1
  have hbk := TV.2.2.1
  refine tz_aload_n (pc := 0) dX9_made_0 rfl rfl ?_
  refine tz_fI (pc := 1) (kz := 12) (v := m) dX9_made_1 fl_X9_45 i_6_12 rfl TV.1.2 (fun r_1 => ?_)
  refine tz_istore (pc := 4) (L2 := [_, _, _, _, _, _, _, _, _, _, _]) dX9_made_4 (by decide) rfl ?_
  refine tz_aload_n (pc := 6) dX9_made_6 rfl rfl ?_
  refine tz_fR (pc := 7) dX9_made_7 fl_X9_49 r_6_0 ?_
  refine tz_iload_n (pc := 10) dX9_made_10 rfl rfl ?_
  refine tz_cV (pc := 11) (zc_syHas hl n _ _ hr_h) vl_X9_63 dX9_made_11 o_1 rfl rfl (Nat.le_of_ble_eq_true rfl) ⟨(Nat.le_of_ble_eq_true rfl), (Nat.le_of_ble_eq_true rfl)⟩ rfl rfl (Nat.le_of_ble_eq_true rfl) (Nat.le_of_ble_eq_true rfl) (fun r9 J_11 hq9 => ?_)
  obtain ⟨z_11, rfl, hz_11, rfl, hv_11⟩ := hq9
  obtain rfl : 0 = z_11 := by rw [← hv_11, if_neg (by omega)]
  refine tz_istore (pc := 14) (L2 := [_, _, _, _, _, _, _, _, _, _, _]) dX9_made_14 (by decide) rfl ?_
  refine tz_iload (pc := 16) dX9_made_16 rfl ?_
  refine tz_if_eqT (pc := 18) (tgt := 33) (by decide) dX9_made_18 (by decide) (by decide) ?_
  refine tz_iconst (pc := 33) dX9_made_33 ?_
  refine tz_istore (pc := 34) (L2 := [_, _, _, _, _, _, _, _, _, _, _]) dX9_made_34 (by decide) rfl ?_
  refine tz_aload_n (pc := 36) dX9_made_36 rfl rfl ?_
  refine tz_fR (pc := 37) dX9_made_37 fl_X9_11 r_6_1 ?_
  refine tz_iload (pc := 40) dX9_made_40 rfl ?_
  refine tz_iload_n (pc := 42) dX9_made_42 rfl rfl ?_
  refine tz_aS (pc := 43) (z := m) dX9_made_43 a_7 rfl (by omega) (by omega) ?_
  refine tz_aload_n (pc := 44) dX9_made_44 rfl rfl ?_
  refine tz_fR (pc := 45) dX9_made_45 fl_X9_15 r_6_2 ?_
  refine tz_iload (pc := 48) dX9_made_48 rfl ?_
  refine tz_iload (pc := 50) dX9_made_50 rfl ?_
  refine tz_aS (pc := 52) (z := m) dX9_made_52 a_8 rfl (by omega) (by decide) ?_
  refine tz_aload_n (pc := 53) dX9_made_53 rfl rfl ?_
  refine tz_fR (pc := 54) dX9_made_54 fl_X9_24 r_6_5 ?_
  refine tz_iload (pc := 57) dX9_made_57 rfl ?_
  refine tz_iload (pc := 59) dX9_made_59 rfl ?_
  refine tz_if_eqT (pc := 61) (tgt := 76) (by decide) dX9_made_61 (by decide) (by decide) ?_
  refine tz_iconst (pc := 76) dX9_made_76 ?_
  refine tz_aS (pc := 77) (z := m) dX9_made_77 a_11 rfl (by omega) (by decide) ?_
  refine tz_aload_n (pc := 78) dX9_made_78 rfl rfl ?_
  refine tz_fR (pc := 79) dX9_made_79 fl_X9_18 r_6_3 ?_
  refine tz_iload (pc := 82) dX9_made_82 rfl ?_
  refine tz_iconst (pc := 84) dX9_made_84 ?_
  refine tz_imul (pc := 85) (v := m * 3) dX9_made_85 rfl ?_
  refine tz_iload (pc := 86) dX9_made_86 rfl ?_
  refine tz_if_leT (pc := 88) (tgt := 95) (by decide) dX9_made_88 (by decide) (by decide) ?_
  refine tz_iconst (pc := 95) dX9_made_95 ?_
  refine tz_aS (pc := 96) (z := (m * 3)) dX9_made_96 a_9 rfl (by omega) (by decide) ?_
  refine tz_aload_n (pc := 97) dX9_made_97 rfl rfl ?_
  refine tz_fR (pc := 98) dX9_made_98 fl_X9_18 r_6_3 ?_
  refine tz_iload (pc := 101) dX9_made_101 rfl ?_
  refine tz_iconst (pc := 103) dX9_made_103 ?_
  refine tz_imul (pc := 104) (v := m * 3) dX9_made_104 rfl ?_
  refine tz_iconst (pc := 105) dX9_made_105 ?_
  refine tz_iadd (pc := 106) (v := (m * 3) + 1) dX9_made_106 rfl ?_
  refine tz_iload (pc := 107) dX9_made_107 rfl ?_
  refine tz_iconst (pc := 109) dX9_made_109 ?_
  refine tz_icmp_leT (pc := 110) (tgt := 117) (by decide) dX9_made_110 (by decide) (by decide) (by decide) ?_
  refine tz_iconst (pc := 117) dX9_made_117 ?_
  refine tz_aS (pc := 118) (z := ((m * 3) + 1)) dX9_made_118 a_9 rfl (by omega) (by decide) ?_
  refine tz_aload_n (pc := 119) dX9_made_119 rfl rfl ?_
  refine tz_fR (pc := 120) dX9_made_120 fl_X9_18 r_6_3 ?_
  refine tz_iload (pc := 123) dX9_made_123 rfl ?_
  refine tz_iconst (pc := 125) dX9_made_125 ?_
  refine tz_imul (pc := 126) (v := m * 3) dX9_made_126 rfl ?_
  refine tz_iconst (pc := 127) dX9_made_127 ?_
  refine tz_iadd (pc := 128) (v := (m * 3) + 2) dX9_made_128 rfl ?_
  refine tz_iload (pc := 129) dX9_made_129 rfl ?_
  refine tz_iconst (pc := 131) dX9_made_131 ?_
  refine tz_icmp_leT (pc := 132) (tgt := 140) (by decide) dX9_made_132 (by decide) (by decide) (by decide) ?_
  refine tz_iconst (pc := 140) dX9_made_140 ?_
  refine tz_aS (pc := 141) (z := ((m * 3) + 2)) dX9_made_141 a_9 rfl (by omega) (by decide) ?_
  refine tz_iload (pc := 142) dX9_made_142 rfl ?_
  refine tz_if_leT (pc := 144) (tgt := 151) (by decide) dX9_made_144 (by decide) (by decide) ?_
  refine tz_iload (pc := 151) dX9_made_151 rfl ?_
  refine tz_iconst (pc := 153) dX9_made_153 ?_
  refine tz_icmp_leT (pc := 154) (tgt := 161) (by decide) dX9_made_154 (by decide) (by decide) (by decide) ?_
  refine tz_iload (pc := 161) dX9_made_161 rfl ?_
  refine tz_iconst (pc := 163) dX9_made_163 ?_
  refine tz_icmp_leT (pc := 164) (tgt := 175) (by decide) dX9_made_164 (by decide) (by decide) (by decide) ?_
  refine tz_aload_n (pc := 175) dX9_made_175 rfl rfl ?_
  refine tz_iload (pc := 176) dX9_made_176 rfl ?_
  refine tz_cV (pc := 178) (zc1_bucket hl n _ _ (by omega) (by omega) (z_lt1 (b := h) (by simp [zup]) (by omega)) (by simp [zup])) vl_X9_71 dX9_made_178 o_6 rfl rfl (Nat.le_of_ble_eq_true rfl) ⟨(Nat.le_of_ble_eq_true rfl), (Nat.le_of_ble_eq_true rfl)⟩ rfl rfl (Nat.le_of_ble_eq_true rfl) (Nat.le_of_ble_eq_true rfl) (fun r9 J_178 hq9 => ?_)
  obtain ⟨z_178, rfl, hz_178, rfl, rfl⟩ := hq9
  refine tz_istore (pc := 181) (L2 := [_, _, _, _, _, _, _, _, _, _, _]) dX9_made_181 (by decide) rfl ?_
  refine tz_aload_n (pc := 183) dX9_made_183 rfl rfl ?_
  refine tz_fR (pc := 184) dX9_made_184 fl_X9_33 r_6_8 ?_
  refine tz_iload (pc := 187) dX9_made_187 rfl ?_
  refine tz_iload (pc := 189) dX9_made_189 rfl ?_
  refine tz_aS (pc := 191) (z := m) dX9_made_191 a_14 rfl (by omega) (by omega) ?_
  refine tz_aload_n (pc := 192) dX9_made_192 rfl rfl ?_
  refine tz_fR (pc := 193) dX9_made_193 fl_X9_39 r_6_10 ?_
  refine tz_iload (pc := 196) dX9_made_196 rfl ?_
  refine tz_aL (pc := 198) (z := 0) (v := (J 16 0)) dX9_made_198 a_16 rfl (by decide) rfl (fun r_198 => ?_)
  refine tz_istore (pc := 199) (L2 := [_, _, _, _, _, _, _, _, _, _, _]) dX9_made_199 (by decide) rfl ?_
  refine tz_iconst (pc := 201) dX9_made_201 ?_
  refine tz_istore (pc := 202) (L2 := [_, _, _, _, _, _, _, _, _, _, _]) dX9_made_202 (by decide) rfl ?_
  have loop204 : ∀ (f9 : Nat) (k : Int) (s : Int) (J1 : zJ), ((400 - k).toNat) < f9 → (0 ≤ k ∧ k ≤ 400) → (-1 ≤ s ∧ s < m) → (zOf (zbut [14]) J1 (zup (zup (zup (zup (zup (zup (zup J 7 m h) 8 m 0) 11 m 1) 9 (m * 3) (-1)) 9 ((m * 3) + 1) (-1)) 9 ((m * 3) + 2) (-1)) 14 m m)) → tz_At l G M_X9_made (tb_rm 2 0 0) none (tb_ZM G 0 0 (zQ n 0 (zqi (fun z J' => ∃ m', zTV m' J' ∧ (m ≤ m' ∧ m' ≤ m + 1 ∧ 0 ≤ z ∧ z < m') ∧ zOf (zbut [6, 7, 8, 9, 10, 11, 12, 13, 14, 15, 16, 17]) J' J))) (zX n 0 zN)) 0 0 n J1 204 [some (.ref 6), some (zi h), some (zi (-1)), some (zi (-1)), some (zi (-1)), some (zi m), some (zi 0), some (zi 0), some (zi 0), some (zi s), some (zi k)] [] := by
    intro f9
    induction f9 with
    | zero => intro k s J1 hm9; exact absurd hm9 (Nat.not_lt_zero _)
    | succ f9 ih204 =>
      intro k s J1 hm204 hk hs fr
      refine tz_iload (pc := 204) dX9_made_204 rfl ?_
      refine tz_sipush (pc := 206) dX9_made_206 (by decide) ?_
      refine tz_icmp_ge (pc := 209) (tgt := 272) dX9_made_209 (by decide) (by omega) (by decide) (fun h_209 => ?_) (fun h_209 => ?_)
      · refine tz_aload_n (pc := 272) dX9_made_272 rfl rfl ?_
        refine tz_iload (pc := 273) dX9_made_273 rfl ?_
        refine tz_cV (pc := 275) (zc1_measure hl n _ _ (by omega) (by omega) (z_lt1 (b := h) (Eq.trans (congrFun (fr 7 rfl) m) (by simp [zup])) (by omega)) (Eq.trans (congrFun (fr 8 rfl) m) (by simp [zup]))) vl_X9_82 dX9_made_275 o_6 rfl rfl (Nat.le_of_ble_eq_true rfl) ⟨(Nat.le_of_ble_eq_true rfl), (Nat.le_of_ble_eq_true rfl)⟩ rfl rfl (Nat.le_of_ble_eq_true rfl) (Nat.le_of_ble_eq_true rfl) (fun r9 J_275 hq9 => ?_)
        obtain ⟨rfl, rfl⟩ := hq9
        refine tz_iload (pc := 278) dX9_made_278 rfl ?_
        refine tz_sipush (pc := 280) dX9_made_280 (by decide) ?_
        refine tz_icmp_geF (pc := 283) (tgt := 298) (by omega) dX9_made_283 (by decide) (by omega) (by decide) ?_
        refine tz_aload_n (pc := 286) dX9_made_286 rfl rfl ?_
        refine tz_fR (pc := 287) dX9_made_287 fl_X9_27 r_6_6 ?_
        refine tz_iload (pc := 290) dX9_made_290 rfl ?_
        refine tz_aL (pc := 292) (z := m) (v := 1) dX9_made_292 a_12 rfl (by omega) (by simp [zup]) (fun _ => ?_)
        refine tz_bipush (pc := 293) dX9_made_293 (by decide) ?_
        refine tz_icmp_leT (pc := 295) (tgt := 301) (by decide) dX9_made_295 (by decide) (by decide) (by decide) ?_
        refine tz_aload_n (pc := 301) dX9_made_301 rfl rfl ?_
        refine tz_fR (pc := 302) dX9_made_302 fl_X9_36 r_6_9 ?_
        refine tz_iload (pc := 305) dX9_made_305 rfl ?_
        refine tz_aload_n (pc := 307) dX9_made_307 rfl rfl ?_
        refine tz_fR (pc := 308) dX9_made_308 fl_X9_39 r_6_10 ?_
        refine tz_iload (pc := 311) dX9_made_311 rfl ?_
        refine tz_aL (pc := 313) (z := 0) (v := (J 16 0)) dX9_made_313 a_16 rfl (by decide) (Eq.trans (congrFun (fr 16 rfl) 0) rfl) (fun r_313 => ?_)
        refine tz_aS (pc := 314) (z := m) dX9_made_314 a_15 rfl (by omega) (by omega) ?_
        refine tz_aload_n (pc := 315) dX9_made_315 rfl rfl ?_
        refine tz_fR (pc := 316) dX9_made_316 fl_X9_39 r_6_10 ?_
        refine tz_iload (pc := 319) dX9_made_319 rfl ?_
        refine tz_iload (pc := 321) dX9_made_321 rfl ?_
        refine tz_aS (pc := 323) (z := 0) dX9_made_323 a_16 rfl (by decide) (by omega) ?_
        refine tz_aload_n (pc := 324) dX9_made_324 rfl rfl ?_
        refine tz_dup (pc := 325) dX9_made_325 rfl ?_
        refine tz_fI (pc := 326) (kz := 12) (v := m) dX9_made_326 fl_X9_45 i_6_12 rfl (Eq.trans (congrFun (fr 6 rfl) 12) TV.1.2) (fun r_326 => ?_)
        refine tz_iconst (pc := 329) dX9_made_329 ?_
        refine tz_iadd (pc := 330) (v := m + 1) dX9_made_330 rfl ?_
        refine tz_pI (pc := 331) (kz := 12) dX9_made_331 fl_X9_45 i_6_12 rfl rfl (by omega) ?_
        refine tz_iload (pc := 334) dX9_made_334 rfl ?_
        exact tz_iret (pc := 336) (z := m) dX9_made_336 rfl (Nat.le_of_ble_eq_true rfl) (Nat.le_of_ble_eq_true rfl) ⟨Nat.le_refl _, Nat.le_add_right _ _⟩ ⟨_, rfl, (by omega), ⟨m + 1, zc1_fin TV hm9 hh9 fr⟩⟩
      · refine tz_iload (pc := 212) dX9_made_212 rfl ?_
        refine tz_iconst (pc := 214) dX9_made_214 ?_
        refine tz_icmp_eq (pc := 215) (tgt := 272) dX9_made_215 (by decide) (by omega) (by decide) (fun h_215 => ?_) (fun h_215 => ?_)
        · refine tz_aload_n (pc := 272) dX9_made_272 rfl rfl ?_
          refine tz_iload (pc := 273) dX9_made_273 rfl ?_
          refine tz_cV (pc := 275) (zc1_measure hl n _ _ (by omega) (by omega) (z_lt1 (b := h) (Eq.trans (congrFun (fr 7 rfl) m) (by simp [zup])) (by omega)) (Eq.trans (congrFun (fr 8 rfl) m) (by simp [zup]))) vl_X9_82 dX9_made_275 o_6 rfl rfl (Nat.le_of_ble_eq_true rfl) ⟨(Nat.le_of_ble_eq_true rfl), (Nat.le_of_ble_eq_true rfl)⟩ rfl rfl (Nat.le_of_ble_eq_true rfl) (Nat.le_of_ble_eq_true rfl) (fun r9 J_275 hq9 => ?_)
          obtain ⟨rfl, rfl⟩ := hq9
          refine tz_iload (pc := 278) dX9_made_278 rfl ?_
          refine tz_sipush (pc := 280) dX9_made_280 (by decide) ?_
          refine tz_icmp_geF (pc := 283) (tgt := 298) (by omega) dX9_made_283 (by decide) (by omega) (by decide) ?_
          refine tz_aload_n (pc := 286) dX9_made_286 rfl rfl ?_
          refine tz_fR (pc := 287) dX9_made_287 fl_X9_27 r_6_6 ?_
          refine tz_iload (pc := 290) dX9_made_290 rfl ?_
          refine tz_aL (pc := 292) (z := m) (v := 1) dX9_made_292 a_12 rfl (by omega) (by simp [zup]) (fun _ => ?_)
          refine tz_bipush (pc := 293) dX9_made_293 (by decide) ?_
          refine tz_icmp_leT (pc := 295) (tgt := 301) (by decide) dX9_made_295 (by decide) (by decide) (by decide) ?_
          refine tz_aload_n (pc := 301) dX9_made_301 rfl rfl ?_
          refine tz_fR (pc := 302) dX9_made_302 fl_X9_36 r_6_9 ?_
          refine tz_iload (pc := 305) dX9_made_305 rfl ?_
          refine tz_aload_n (pc := 307) dX9_made_307 rfl rfl ?_
          refine tz_fR (pc := 308) dX9_made_308 fl_X9_39 r_6_10 ?_
          refine tz_iload (pc := 311) dX9_made_311 rfl ?_
          refine tz_aL (pc := 313) (z := 0) (v := (J 16 0)) dX9_made_313 a_16 rfl (by decide) (Eq.trans (congrFun (fr 16 rfl) 0) rfl) (fun r_313 => ?_)
          refine tz_aS (pc := 314) (z := m) dX9_made_314 a_15 rfl (by omega) (by omega) ?_
          refine tz_aload_n (pc := 315) dX9_made_315 rfl rfl ?_
          refine tz_fR (pc := 316) dX9_made_316 fl_X9_39 r_6_10 ?_
          refine tz_iload (pc := 319) dX9_made_319 rfl ?_
          refine tz_iload (pc := 321) dX9_made_321 rfl ?_
          refine tz_aS (pc := 323) (z := 0) dX9_made_323 a_16 rfl (by decide) (by omega) ?_
          refine tz_aload_n (pc := 324) dX9_made_324 rfl rfl ?_
          refine tz_dup (pc := 325) dX9_made_325 rfl ?_
          refine tz_fI (pc := 326) (kz := 12) (v := m) dX9_made_326 fl_X9_45 i_6_12 rfl (Eq.trans (congrFun (fr 6 rfl) 12) TV.1.2) (fun r_326 => ?_)
          refine tz_iconst (pc := 329) dX9_made_329 ?_
          refine tz_iadd (pc := 330) (v := m + 1) dX9_made_330 rfl ?_
          refine tz_pI (pc := 331) (kz := 12) dX9_made_331 fl_X9_45 i_6_12 rfl rfl (by omega) ?_
          refine tz_iload (pc := 334) dX9_made_334 rfl ?_
          exact tz_iret (pc := 336) (z := m) dX9_made_336 rfl (Nat.le_of_ble_eq_true rfl) (Nat.le_of_ble_eq_true rfl) ⟨Nat.le_refl _, Nat.le_add_right _ _⟩ ⟨_, rfl, (by omega), ⟨m + 1, zc1_fin TV hm9 hh9 fr⟩⟩
        · refine tz_aload_n (pc := 218) dX9_made_218 rfl rfl ?_
          refine tz_iload (pc := 219) dX9_made_219 rfl ?_
          refine tz_iload (pc := 221) dX9_made_221 rfl ?_
          refine tz_cV (pc := 223) (zc1_same hl n _ _ _ (by omega) (by omega) (by omega) (by omega) (Eq.trans (congrFun (fr 8 rfl) m) (by simp [zup]))) vl_X9_75 dX9_made_223 o_6 rfl rfl (Nat.le_of_ble_eq_true rfl) ⟨(Nat.le_of_ble_eq_true rfl), (Nat.le_of_ble_eq_true rfl)⟩ rfl rfl (Nat.le_of_ble_eq_true rfl) (Nat.le_of_ble_eq_true rfl) (fun r9 J_223 hq9 => ?_)
          obtain ⟨z_223, rfl, hz_223, rfl, rfl⟩ := hq9
          refine tz_if_eq (pc := 226) (tgt := 232) dX9_made_226 (by decide) (by omega) (fun h_226 => ?_) (fun h_226 => ?_)
          · refine tz_aload_n (pc := 232) dX9_made_232 rfl rfl ?_
            refine tz_iload (pc := 233) dX9_made_233 rfl ?_
            refine tz_iload (pc := 235) dX9_made_235 rfl ?_
            refine tz_cV (pc := 237) (zc1_shape hl n _ _ _ (by omega) (by omega) (by omega) (by omega) (Eq.trans (congrFun (fr 8 rfl) m) (by simp [zup]))) vl_X9_79 dX9_made_237 o_6 rfl rfl (Nat.le_of_ble_eq_true rfl) ⟨(Nat.le_of_ble_eq_true rfl), (Nat.le_of_ble_eq_true rfl)⟩ rfl rfl (Nat.le_of_ble_eq_true rfl) (Nat.le_of_ble_eq_true rfl) (fun r9 J_237 hq9 => ?_)
            obtain ⟨z_237, rfl, hz_237, rfl⟩ := hq9
            refine tz_if_eq (pc := 240) (tgt := 257) dX9_made_240 (by decide) (by omega) (fun h_240 => ?_) (fun h_240 => ?_)
            · refine tz_aload_n (pc := 257) dX9_made_257 rfl rfl ?_
              refine tz_fR (pc := 258) dX9_made_258 fl_X9_36 r_6_9 ?_
              refine tz_iload (pc := 261) dX9_made_261 rfl ?_
              have hch := (TV.2.2.2 s (by omega) (by omega)).2
              refine tz_aL (pc := 263) (z := s) (v := (J 15 s)) dX9_made_263 a_15 rfl (by omega) (Eq.trans (congrFun (fr 15 rfl) s) rfl) (fun r_263 => ?_)
              refine tz_istore (pc := 264) (L2 := [_, _, _, _, _, _, _, _, _, _, _]) dX9_made_264 (by decide) rfl ?_
              refine tz_iinc (pc := 266) (z := k + 1) (L2 := [_, _, _, _, _, _, _, _, _, _, _]) dX9_made_266 rfl (by omega) rfl ?_
              refine tz_goto (pc := 269) (tgt := 204) dX9_made_269 (by decide) ?_
              exact ih204 (k + 1) _ _ (by omega) (by omega) (by omega) (by repeat (first | exact fr | refine zOf.up rfl ?_))
            · refine tz_aload_n (pc := 243) dX9_made_243 rfl rfl ?_
              refine tz_fR (pc := 244) dX9_made_244 fl_X9_33 r_6_8 ?_
              refine tz_iload (pc := 247) dX9_made_247 rfl ?_
              refine tz_aload_n (pc := 249) dX9_made_249 rfl rfl ?_
              refine tz_fR (pc := 250) dX9_made_250 fl_X9_33 r_6_8 ?_
              refine tz_iload (pc := 253) dX9_made_253 rfl ?_
              refine tz_aL (pc := 255) (z := s) (v := (J1 14 s)) dX9_made_255 a_14 rfl (by omega) rfl (fun r_255 => ?_)
              refine tz_aS (pc := 256) (z := m) dX9_made_256 a_14 rfl (by omega) (by omega) ?_
              refine tz_aload_n (pc := 257) dX9_made_257 rfl rfl ?_
              refine tz_fR (pc := 258) dX9_made_258 fl_X9_36 r_6_9 ?_
              refine tz_iload (pc := 261) dX9_made_261 rfl ?_
              have hch := (TV.2.2.2 s (by omega) (by omega)).2
              refine tz_aL (pc := 263) (z := s) (v := (J 15 s)) dX9_made_263 a_15 rfl (by omega) (Eq.trans (congrFun (fr 15 rfl) s) rfl) (fun r_263 => ?_)
              refine tz_istore (pc := 264) (L2 := [_, _, _, _, _, _, _, _, _, _, _]) dX9_made_264 (by decide) rfl ?_
              refine tz_iinc (pc := 266) (z := k + 1) (L2 := [_, _, _, _, _, _, _, _, _, _, _]) dX9_made_266 rfl (by omega) rfl ?_
              refine tz_goto (pc := 269) (tgt := 204) dX9_made_269 (by decide) ?_
              exact ih204 (k + 1) _ _ (by omega) (by omega) (by omega) (by repeat (first | exact fr | refine zOf.up rfl ?_))
          · refine tz_iload (pc := 229) dX9_made_229 rfl ?_
            exact tz_iret (pc := 231) (z := s) dX9_made_231 rfl (Nat.le_of_ble_eq_true rfl) (Nat.le_of_ble_eq_true rfl) ⟨Nat.le_refl _, Nat.le_add_right _ _⟩ ⟨_, rfl, (by omega), ⟨m, (zc1_keep TV fr).1, by omega, (zc1_keep TV fr).2⟩⟩
  exact loop204 _ 0 _ _ (Nat.lt_succ_self _) (by omega) (by omega) zOf.rf

theorem z_not8 {v : Int} (h : 0 ≤ v ∧ v < 8) : zxor v (-1) = -1 - v := by
  have h3 : v = 0 ∨ v = 1 ∨ v = 2 ∨ v = 3 ∨ v = 4 ∨ v = 5 ∨ v = 6 ∨ v = 7 := by omega
  rcases h3 with rfl | rfl | rfl | rfl | rfl | rfl | rfl | rfl <;> decide
set_option maxHeartbeats 4000000 in
set_option maxRecDepth 100000 in
theorem zc1_varTerm {l : Launch} {G : tb_G} (hl : l.stackTraces = false) (n : Nat) (J : zJ) (v : Int) (hr_v : -2147483648 ≤ v ∧ v < 2147483648) (m : Int) (TV : zTV m J) (hm9 : m ≤ 29) (hv9 : 0 ≤ v ∧ v < 8) : tz_Ok l G M_X9_variableTerm 3 0 0 [.ref 6, zi v] n J (zqi (fun z J' => ∃ m', zTV m' J' ∧ (m ≤ m' ∧ m' ≤ m + 1 ∧ 0 ≤ z ∧ z < m') ∧ zOf (zbut [6, 7, 8, 9, 10, 11, 12, 13, 14, 15, 16, 17]) J' J)) zN := by
  refine tz_Ok.of hl (by decide +kernel) rfl (tb_c1 rfl) (Nat.le_of_ble_eq_true rfl) ?_
  show tz_At l G M_X9_variableTerm (tb_rm 3 0 0) none (tb_ZM G 0 0 (zQ n 0 (zqi (fun z J' => ∃ m', zTV m' J' ∧ (m ≤ m' ∧ m' ≤ m + 1 ∧ 0 ≤ z ∧ z < m') ∧ zOf (zbut [6, 7, 8, 9, 10, 11, 12, 13, 14, 15, 16, 17]) J' J))) (zX n 0 zN)) 0 0 n J 0 [some (.ref 6), some (zi v)] []
  refine tz_aload_n (pc := 0) dX9_variableTerm_0 rfl rfl ?_
  refine tz_iload_n (pc := 1) dX9_variableTerm_1 rfl rfl ?_
  refine tz_iconst (pc := 2) dX9_variableTerm_2 ?_
  refine tz_ixor (pc := 3) (v := -1 - v) dX9_variableTerm_3 (z_not8 hv9) ?_
  refine tz_iconst (pc := 4) dX9_variableTerm_4 ?_
  refine tz_iconst (pc := 5) dX9_variableTerm_5 ?_
  refine tz_iconst (pc := 6) dX9_variableTerm_6 ?_
  refine tz_cV (pc := 7) (zc1_made hl n _ _ (by omega) m TV hm9 (by omega)) vl_X9_59 dX9_variableTerm_7 o_6 rfl rfl (Nat.le_of_ble_eq_true rfl) ⟨(Nat.le_of_ble_eq_true rfl), (Nat.le_of_ble_eq_true rfl)⟩ rfl rfl (Nat.le_of_ble_eq_true rfl) (Nat.le_of_ble_eq_true rfl) (fun r9 J_7 hq9 => ?_)
  obtain ⟨z_7, rfl, hz_7, hp⟩ := hq9
  exact tz_iret (pc := 10) (z := z_7) dX9_variableTerm_10 rfl (Nat.le_of_ble_eq_true rfl) (Nat.le_of_ble_eq_true rfl) ⟨Nat.le_refl _, Nat.le_add_right _ _⟩ ⟨_, rfl, (by omega), hp⟩

set_option maxHeartbeats 4000000 in
set_option maxRecDepth 100000 in
theorem zc_drawOf {l : Launch} {G : tb_G} (hl : l.stackTraces = false) (n : Nat) (J : zJ) (k : Int) (hr_k : -2147483648 ≤ k ∧ k < 2147483648)  (h0 : 0 < k) : tz_Ok l G M_X2_drawOf 0 0 0 [.ref 141, zi k] n J (zqi (fun z J' => zup J 141 5 (zw (J 141 5 * 1103515245 + 12345)) = J' ∧ (0 ≤ z ∧ z < k) ∧ zand (zushr (zw (J 141 5 * 1103515245 + 12345)) 16) 32767 % k = z)) zN := by
  refine tz_Ok.of hl (by decide +kernel) rfl (tb_c1 rfl) (Nat.le_of_ble_eq_true rfl) ?_
  show tz_At l G M_X2_drawOf (tb_rm 0 0 0) none (tb_ZM G 0 0 (zQ n 0 (zqi (fun z J' => zup J 141 5 (zw (J 141 5 * 1103515245 + 12345)) = J' ∧ (0 ≤ z ∧ z < k) ∧ zand (zushr (zw (J 141 5 * 1103515245 + 12345)) 16) 32767 % k = z))) (zX n 0 zN)) 0 0 n J 0 [some (.ref 141), some (zi k)] []
  refine tz_aload_n (pc := 0) dX2_drawOf_0 rfl rfl ?_
  refine tz_aload_n (pc := 1) dX2_drawOf_1 rfl rfl ?_
  refine tz_fI (pc := 2) (kz := 5) (v := (J 141 5)) dX2_drawOf_2 fl_X2_25 i_141_5 rfl rfl (fun r_2 => ?_)
  refine tz_ldc (pc := 5) (z := 1103515245) dX2_drawOf_5 ct_X2_124 (by decide) ?_
  refine tz_imul (pc := 7) (v := (J 141 5) * 1103515245) dX2_drawOf_7 rfl ?_
  refine tz_sipush (pc := 8) dX2_drawOf_8 (by decide) ?_
  refine tz_iadd (pc := 11) (v := ((J 141 5) * 1103515245) + 12345) dX2_drawOf_11 rfl ?_
  refine tz_tw ?_
  have rw_12 := zw_rg (((J 141 5) * 1103515245) + 12345)
  refine tz_pI (pc := 12) (kz := 5) dX2_drawOf_12 fl_X2_25 i_141_5 rfl rfl (zw_rg _) ?_
  refine tz_iload_n (pc := 15) dX2_drawOf_15 rfl rfl ?_
  refine tz_if_leF (pc := 16) (tgt := 35) (by omega) dX2_drawOf_16 (by decide) (by omega) ?_
  refine tz_aload_n (pc := 19) dX2_drawOf_19 rfl rfl ?_
  refine tz_fI (pc := 20) (kz := 5) (v := (zw (((J 141 5) * 1103515245) + 12345))) dX2_drawOf_20 fl_X2_25 i_141_5 rfl rfl (fun r_20 => ?_)
  refine tz_bipush (pc := 23) dX2_drawOf_23 (by decide) ?_
  refine tz_iushr (pc := 25) (v := zushr (zw (((J 141 5) * 1103515245) + 12345)) 16) dX2_drawOf_25 rfl ?_
  refine tz_sipush (pc := 26) dX2_drawOf_26 (by decide) ?_
  refine tz_iand (pc := 29) (v := zand (zushr (zw (((J 141 5) * 1103515245) + 12345)) 16) 32767) dX2_drawOf_29 rfl ?_
  refine tz_iload_n (pc := 30) dX2_drawOf_30 rfl rfl ?_
  have ha9 := z_and (zushr (zw (J 141 5 * 1103515245 + 12345)) 16) (m := 32767) 15 (by decide) (by decide)
  refine tz_irem (pc := 31) (a := (zand (zushr (zw (((J 141 5) * 1103515245) + 12345)) 16) 32767)) (b := k) (v := ((zand (zushr (zw (((J 141 5) * 1103515245) + 12345)) 16) 32767) % k)) dX2_drawOf_31 (by omega) (by omega) rfl ?_
  refine tz_goto (pc := 32) (tgt := 36) dX2_drawOf_32 (by decide) ?_
  exact tz_iret (pc := 36) (z := ((zand (zushr (zw (((J 141 5) * 1103515245) + 12345)) 16) 32767) % k)) dX2_drawOf_36 rfl (Nat.le_of_ble_eq_true rfl) (Nat.le_of_ble_eq_true rfl) ⟨Nat.le_refl _, Nat.le_add_right _ _⟩ ⟨_, rfl, (by have := Int.emod_nonneg (zand (zushr (zw (J 141 5 * 1103515245 + 12345)) 16) 32767) (show k ≠ 0 by omega); have := Int.emod_lt_of_pos (zand (zushr (zw (J 141 5 * 1103515245 + 12345)) 16) 32767) h0; omega), ⟨rfl, ⟨Int.emod_nonneg _ (by omega), Int.emod_lt_of_pos _ h0⟩, rfl⟩⟩

theorem zTV.sd {m s : Int} {J : zJ} (h : zTV m J) : zTV m (zup J 141 5 s) := h
theorem zD141 {J J2 J9 : zJ} (h : zOf (zbut [6, 7, 8, 9, 10, 11, 12, 13, 14, 15, 16, 17]) J9 J2) (h2 : zOf (zbut [141, 6, 7, 8, 9, 10, 11, 12, 13, 14, 15, 16, 17]) J2 J) : zOf (zbut [141, 6, 7, 8, 9, 10, 11, 12, 13, 14, 15, 16, 17]) J9 J := (zOf.mono h (fun c hc => by simp [zbut] at hc ⊢; omega)).tr h2
set_option maxHeartbeats 4000000 in
set_option maxRecDepth 100000 in
theorem zc1_drawnPart {l : Launch} {G : tb_G} (hl : l.stackTraces = false) (n : Nat) (J : zJ) (d : Int) (hr_d : -2147483648 ≤ d ∧ d < 2147483648) (m : Int) (TV : zTV m J) (hm9 : m ≤ 29) : tz_Ok l G M_X2_drawnPart 4 0 0 [.ref 141, zi d] n J (zqi (fun z J' => ∃ m', zTV m' J' ∧ (m ≤ m' ∧ m' ≤ m + 1 ∧ 0 ≤ z ∧ z < m') ∧ zOf (zbut [141, 6, 7, 8, 9, 10, 11, 12, 13, 14, 15, 16, 17]) J' J)) zN := by
  refine tz_Ok.of hl (by decide +kernel) rfl (tb_c1 rfl) (Nat.le_of_ble_eq_true rfl) ?_
  show tz_At l G M_X2_drawnPart (tb_rm 4 0 0) none (tb_ZM G 0 0 (zQ n 0 (zqi (fun z J' => ∃ m', zTV m' J' ∧ (m ≤ m' ∧ m' ≤ m + 1 ∧ 0 ≤ z ∧ z < m') ∧ zOf (zbut [141, 6, 7, 8, 9, 10, 11, 12, 13, 14, 15, 16, 17]) J' J))) (zX n 0 zN)) 0 0 n J 0 [some (.ref 141), some (zi d), none, none, none, none, none, none, none] []
  have TV0 := TV
  refine tz_aload_n (pc := 0) dX2_drawnPart_0 rfl rfl ?_
  refine tz_bipush (pc := 1) dX2_drawnPart_1 (by decide) ?_
  refine tz_cV (pc := 3) (zc_drawOf hl n _ _ (by decide) (by decide)) vl_X2_111 dX2_drawnPart_3 o_141 rfl rfl (Nat.le_of_ble_eq_true rfl) ⟨(Nat.le_of_ble_eq_true rfl), (Nat.le_of_ble_eq_true rfl)⟩ rfl rfl (Nat.le_of_ble_eq_true rfl) (Nat.le_of_ble_eq_true rfl) (fun r9 J_3 hq9 => ?_)
  obtain ⟨z_3, rfl, hz_3, rfl, hb_3, -⟩ := hq9
  refine tz_istore_n (pc := 6) (L2 := [_, _, _, _, _, _, _, _, _]) dX2_drawnPart_6 rfl (by decide) rfl ?_
  refine tz_aload_n (pc := 7) dX2_drawnPart_7 rfl rfl ?_
  refine tz_fR (pc := 8) dX2_drawnPart_8 fl_X2_28 r_141_0 ?_
  refine tz_fR (pc := 11) dX2_drawnPart_11 fl_X2_114 r_6_0 ?_
  refine tz_fI (pc := 14) (kz := 3) (v := 0) dX2_drawnPart_14 fl_X2_118 i_1_3 rfl TV.1.1 (fun _ => ?_)
  refine tz_istore_n (pc := 17) (L2 := [_, _, _, _, _, _, _, _, _]) dX2_drawnPart_17 rfl (by decide) rfl ?_
  refine tz_iload_n (pc := 18) dX2_drawnPart_18 rfl rfl ?_
  refine tz_if_eq (pc := 19) (tgt := 31) dX2_drawnPart_19 (by decide) (by omega) (fun h_19 => ?_) (fun h_19 => ?_)
  · refine tz_aload_n (pc := 31) dX2_drawnPart_31 rfl rfl ?_
    refine tz_fR (pc := 32) dX2_drawnPart_32 fl_X2_28 r_141_0 ?_
    refine tz_aload_n (pc := 35) dX2_drawnPart_35 rfl rfl ?_
    refine tz_iconst (pc := 36) dX2_drawnPart_36 ?_
    refine tz_cV (pc := 37) (zc_drawOf hl n _ _ (by decide) (by decide)) vl_X2_111 dX2_drawnPart_37 o_141 rfl rfl (Nat.le_of_ble_eq_true rfl) ⟨(Nat.le_of_ble_eq_true rfl), (Nat.le_of_ble_eq_true rfl)⟩ rfl rfl (Nat.le_of_ble_eq_true rfl) (Nat.le_of_ble_eq_true rfl) (fun r9 J_37 hq9 => ?_)
    obtain ⟨z_37, rfl, hz_37, rfl, hb_37, -⟩ := hq9
    refine tz_cV (pc := 40) (zc1_varTerm hl n _ _ (by omega) m TV0 hm9 (by omega)) vl_X2_99 dX2_drawnPart_40 o_6 rfl rfl (Nat.le_of_ble_eq_true rfl) ⟨(Nat.le_of_ble_eq_true rfl), (Nat.le_of_ble_eq_true rfl)⟩ rfl rfl (Nat.le_of_ble_eq_true rfl) (Nat.le_of_ble_eq_true rfl) (fun r9 J_40 hq9 => ?_)
    obtain ⟨z_40, rfl, hz_40, m9, hp1, hp2, hp3⟩ := hq9
    exact tz_iret (pc := 43) (z := z_40) dX2_drawnPart_43 rfl (Nat.le_of_ble_eq_true rfl) (Nat.le_of_ble_eq_true rfl) ⟨Nat.le_refl _, Nat.le_add_right _ _⟩ ⟨_, rfl, (by omega), ⟨m9, hp1, hp2, zD141 hp3 (zOf.up rfl (by first | exact zOf.rf | exact zOf.up rfl zOf.rf))⟩⟩
  · refine tz_iload_n (pc := 22) dX2_drawnPart_22 rfl rfl ?_
    refine tz_iconst (pc := 23) dX2_drawnPart_23 ?_
    refine tz_icmp_le (pc := 24) (tgt := 31) dX2_drawnPart_24 (by decide) (by omega) (by decide) (fun h_24 => ?_) (fun h_24 => ?_)
    · refine tz_aload_n (pc := 31) dX2_drawnPart_31 rfl rfl ?_
      refine tz_fR (pc := 32) dX2_drawnPart_32 fl_X2_28 r_141_0 ?_
      refine tz_aload_n (pc := 35) dX2_drawnPart_35 rfl rfl ?_
      refine tz_iconst (pc := 36) dX2_drawnPart_36 ?_
      refine tz_cV (pc := 37) (zc_drawOf hl n _ _ (by decide) (by decide)) vl_X2_111 dX2_drawnPart_37 o_141 rfl rfl (Nat.le_of_ble_eq_true rfl) ⟨(Nat.le_of_ble_eq_true rfl), (Nat.le_of_ble_eq_true rfl)⟩ rfl rfl (Nat.le_of_ble_eq_true rfl) (Nat.le_of_ble_eq_true rfl) (fun r9 J_37 hq9 => ?_)
      obtain ⟨z_37, rfl, hz_37, rfl, hb_37, -⟩ := hq9
      refine tz_cV (pc := 40) (zc1_varTerm hl n _ _ (by omega) m TV0 hm9 (by omega)) vl_X2_99 dX2_drawnPart_40 o_6 rfl rfl (Nat.le_of_ble_eq_true rfl) ⟨(Nat.le_of_ble_eq_true rfl), (Nat.le_of_ble_eq_true rfl)⟩ rfl rfl (Nat.le_of_ble_eq_true rfl) (Nat.le_of_ble_eq_true rfl) (fun r9 J_40 hq9 => ?_)
      obtain ⟨z_40, rfl, hz_40, m9, hp1, hp2, hp3⟩ := hq9
      exact tz_iret (pc := 43) (z := z_40) dX2_drawnPart_43 rfl (Nat.le_of_ble_eq_true rfl) (Nat.le_of_ble_eq_true rfl) ⟨Nat.le_refl _, Nat.le_add_right _ _⟩ ⟨_, rfl, (by omega), ⟨m9, hp1, hp2, zD141 hp3 (zOf.up rfl (by first | exact zOf.rf | exact zOf.up rfl zOf.rf))⟩⟩
    · refine tz_iload_n (pc := 27) dX2_drawnPart_27 rfl rfl ?_
      refine tz_if_neF (pc := 28) (tgt := 44) (by decide) dX2_drawnPart_28 (by decide) (by decide) ?_
      refine tz_aload_n (pc := 31) dX2_drawnPart_31 rfl rfl ?_
      refine tz_fR (pc := 32) dX2_drawnPart_32 fl_X2_28 r_141_0 ?_
      refine tz_aload_n (pc := 35) dX2_drawnPart_35 rfl rfl ?_
      refine tz_iconst (pc := 36) dX2_drawnPart_36 ?_
      refine tz_cV (pc := 37) (zc_drawOf hl n _ _ (by decide) (by decide)) vl_X2_111 dX2_drawnPart_37 o_141 rfl rfl (Nat.le_of_ble_eq_true rfl) ⟨(Nat.le_of_ble_eq_true rfl), (Nat.le_of_ble_eq_true rfl)⟩ rfl rfl (Nat.le_of_ble_eq_true rfl) (Nat.le_of_ble_eq_true rfl) (fun r9 J_37 hq9 => ?_)
      obtain ⟨z_37, rfl, hz_37, rfl, hb_37, -⟩ := hq9
      refine tz_cV (pc := 40) (zc1_varTerm hl n _ _ (by omega) m TV0 hm9 (by omega)) vl_X2_99 dX2_drawnPart_40 o_6 rfl rfl (Nat.le_of_ble_eq_true rfl) ⟨(Nat.le_of_ble_eq_true rfl), (Nat.le_of_ble_eq_true rfl)⟩ rfl rfl (Nat.le_of_ble_eq_true rfl) (Nat.le_of_ble_eq_true rfl) (fun r9 J_40 hq9 => ?_)
      obtain ⟨z_40, rfl, hz_40, m9, hp1, hp2, hp3⟩ := hq9
      exact tz_iret (pc := 43) (z := z_40) dX2_drawnPart_43 rfl (Nat.le_of_ble_eq_true rfl) (Nat.le_of_ble_eq_true rfl) ⟨Nat.le_refl _, Nat.le_add_right _ _⟩ ⟨_, rfl, (by omega), ⟨m9, hp1, hp2, zD141 hp3 (zOf.up rfl (by first | exact zOf.rf | exact zOf.up rfl zOf.rf))⟩⟩

set_option maxHeartbeats 4000000 in
set_option maxRecDepth 100000 in
theorem zc1_drawn {l : Launch} {G : tb_G} (hl : l.stackTraces = false) (n : Nat) (J : zJ) (d : Int) (hr_d : -2147483648 ≤ d ∧ d < 2147483648) (m : Int) (TV : zTV m J) (hm9 : m ≤ 29) : tz_Ok l G M_X2_drawn 5 0 0 [.ref 141, zi d] n J (zqi (fun z J' => ∃ m', zTV m' J' ∧ (m ≤ m' ∧ m' ≤ m + 1 ∧ 0 ≤ z ∧ z < m') ∧ zOf (zbut [141, 6, 7, 8, 9, 10, 11, 12, 13, 14, 15, 16, 17]) J' J)) zN := by
  refine tz_Ok.of hl (by decide +kernel) rfl (tb_c1 rfl) (Nat.le_of_ble_eq_true rfl) ?_
  show tz_At l G M_X2_drawn (tb_rm 5 0 0) none (tb_ZM G 0 0 (zQ n 0 (zqi (fun z J' => ∃ m', zTV m' J' ∧ (m ≤ m' ∧ m' ≤ m + 1 ∧ 0 ≤ z ∧ z < m') ∧ zOf (zbut [141, 6, 7, 8, 9, 10, 11, 12, 13, 14, 15, 16, 17]) J' J))) (zX n 0 zN)) 0 0 n J 0 [some (.ref 141), some (zi d)] []
  refine tz_aload_n (pc := 0) dX2_drawn_0 rfl rfl ?_
  refine tz_iload_n (pc := 1) dX2_drawn_1 rfl rfl ?_
  refine tz_iconst (pc := 2) dX2_drawn_2 ?_
  refine tz_mn (pc := 3) (v := if 4 < d then 4 else d) dX2_drawn_3 ml_X2_103 (Nat.le_of_ble_eq_true rfl) (Nat.le_of_ble_eq_true rfl) (Nat.le_of_ble_eq_true rfl) (Nat.le_of_ble_eq_true rfl) (by omega) (by decide) rfl ?_
  refine tz_cV (pc := 6) (zc1_drawnPart hl n _ _ (by split <;> omega) m TV hm9) vl_X2_108 dX2_drawn_6 o_141 rfl rfl (Nat.le_of_ble_eq_true rfl) ⟨(Nat.le_of_ble_eq_true rfl), (Nat.le_of_ble_eq_true rfl)⟩ rfl rfl (Nat.le_of_ble_eq_true rfl) (Nat.le_of_ble_eq_true rfl) (fun r9 J_6 hq9 => ?_)
  obtain ⟨z_6, rfl, hz_6, hp⟩ := hq9
  exact tz_iret (pc := 9) (z := z_6) dX2_drawn_9 rfl (Nat.le_of_ble_eq_true rfl) (Nat.le_of_ble_eq_true rfl) ⟨Nat.le_refl _, Nat.le_add_right _ _⟩ ⟨_, rfl, (by omega), hp⟩

set_option maxHeartbeats 4000000 in
set_option maxRecDepth 100000 in
theorem zc1_opened {l : Launch} {G : tb_G} (hl : l.stackTraces = false) (n : Nat) (J : zJ) (t : Int) (hr_t : -2147483648 ≤ t ∧ t < 2147483648)  (h0 : 0 ≤ t ∧ t < 401) (hv : J 7 t < 0) : tz_Ok l G M_X6_opened 1 0 0 [.ref 158, zi t] n J (zqi (fun z J' => J = J' ∧ t = z)) zN := by
  refine tz_Ok.of hl (by decide +kernel) rfl (tb_c1 rfl) (Nat.le_of_ble_eq_true rfl) ?_
  show tz_At l G M_X6_opened (tb_rm 1 0 0) none (tb_ZM G 0 0 (zQ n 0 (zqi (fun z J' => J = J' ∧ t = z))) (zX n 0 zN)) 0 0 n J 0 [some (.ref 158), some (zi t), none] []
  refine tz_iload_n (pc := 0) dX6_opened_0 rfl rfl ?_
  refine tz_if_ltF (pc := 1) (tgt := 15) (by omega) dX6_opened_1 (by decide) (by omega) ?_
  refine tz_aload_n (pc := 4) dX6_opened_4 rfl rfl ?_
  refine tz_fR (pc := 5) dX6_opened_5 fl_X6_38 r_158_1 ?_
  refine tz_iload_n (pc := 8) dX6_opened_8 rfl rfl ?_
  refine tz_cV (pc := 9) (zc_isVar hl n _ _ hr_t h0) vl_X6_59 dX6_opened_9 o_6 rfl rfl (Nat.le_of_ble_eq_true rfl) ⟨(Nat.le_of_ble_eq_true rfl), (Nat.le_of_ble_eq_true rfl)⟩ rfl rfl (Nat.le_of_ble_eq_true rfl) (Nat.le_of_ble_eq_true rfl) (fun r9 J_9 hq9 => ?_)
  obtain ⟨z_9, rfl, hz_9, rfl, hv_9⟩ := hq9
  obtain rfl : 1 = z_9 := by rw [← hv_9, if_pos hv]
  refine tz_if_eqF (pc := 12) (tgt := 17) (by decide) dX6_opened_12 (by decide) (by decide) ?_
  refine tz_iload_n (pc := 15) dX6_opened_15 rfl rfl ?_
  exact tz_iret (pc := 16) (z := t) dX6_opened_16 rfl (Nat.le_of_ble_eq_true rfl) (Nat.le_of_ble_eq_true rfl) ⟨Nat.le_refl _, Nat.le_add_right _ _⟩ ⟨_, rfl, (by omega), ⟨rfl, rfl⟩⟩

set_option maxHeartbeats 4000000 in
set_option maxRecDepth 100000 in
theorem zc1_normal {l : Launch} {G : tb_G} (hl : l.stackTraces = false) (n : Nat) (J : zJ) (t : Int) (hr_t : -2147483648 ≤ t ∧ t < 2147483648)  (h0 : 0 ≤ t ∧ t < 401) (hv : J 7 t < 0) : tz_Ok l G M_X6_normalOf 2 0 0 [.ref 158, zi t] n J (zqi (fun z J' => zup J 158 7 0 = J' ∧ t = z)) zN := by
  refine tz_Ok.of hl (by decide +kernel) rfl (tb_c1 rfl) (Nat.le_of_ble_eq_true rfl) ?_
  show tz_At l G M_X6_normalOf (tb_rm 2 0 0) none (tb_ZM G 0 0 (zQ n 0 (zqi (fun z J' => zup J 158 7 0 = J' ∧ t = z))) (zX n 0 zN)) 0 0 n J 0 [some (.ref 158), some (zi t), none, none] []
  refine tz_aload_n (pc := 0) dX6_normalOf_0 rfl rfl ?_
  refine tz_iconst (pc := 1) dX6_normalOf_1 ?_
  refine tz_pI (pc := 2) (kz := 7) dX6_normalOf_2 fl_X6_21 i_158_7 rfl rfl (by decide) ?_
  refine tz_aload_n (pc := 5) dX6_normalOf_5 rfl rfl ?_
  refine tz_iload_n (pc := 6) dX6_normalOf_6 rfl rfl ?_
  refine tz_cV (pc := 7) (zc1_opened hl n _ _ hr_t h0 hv) vl_X6_47 dX6_normalOf_7 o_158 rfl rfl (Nat.le_of_ble_eq_true rfl) ⟨(Nat.le_of_ble_eq_true rfl), (Nat.le_of_ble_eq_true rfl)⟩ rfl rfl (Nat.le_of_ble_eq_true rfl) (Nat.le_of_ble_eq_true rfl) (fun r9 J_7 hq9 => ?_)
  obtain ⟨z_7, rfl, hz_7, rfl, rfl⟩ := hq9
  refine tz_istore_n (pc := 10) (L2 := [_, _, _, _]) dX6_normalOf_10 rfl (by decide) rfl ?_
  refine tz_iconst (pc := 11) dX6_normalOf_11 ?_
  refine tz_istore_n (pc := 12) (L2 := [_, _, _, _]) dX6_normalOf_12 rfl (by decide) rfl ?_
  refine tz_iload_n (pc := 13) dX6_normalOf_13 rfl rfl ?_
  refine tz_ldc (pc := 14) (z := 1000000) dX6_normalOf_14 ct_X6_51 (by decide) ?_
  refine tz_icmp_geF (pc := 16) (tgt := 67) (by decide) dX6_normalOf_16 (by decide) (by decide) (by decide) ?_
  refine tz_aload_n (pc := 19) dX6_normalOf_19 rfl rfl ?_
  refine tz_fI (pc := 20) (kz := 7) (v := 0) dX6_normalOf_20 fl_X6_21 i_158_7 rfl rfl (fun _ => ?_)
  refine tz_if_leT (pc := 23) (tgt := 67) (by decide) dX6_normalOf_23 (by decide) (by decide) ?_
  refine tz_iload_n (pc := 67) dX6_normalOf_67 rfl rfl ?_
  refine tz_iconst (pc := 68) dX6_normalOf_68 ?_
  refine tz_icmp_neT (pc := 69) (tgt := 77) (by omega) dX6_normalOf_69 (by decide) (by omega) (by decide) ?_
  refine tz_iload_n (pc := 77) dX6_normalOf_77 rfl rfl ?_
  exact tz_iret (pc := 78) (z := t) dX6_normalOf_78 rfl (Nat.le_of_ble_eq_true rfl) (Nat.le_of_ble_eq_true rfl) ⟨Nat.le_refl _, Nat.le_add_right _ _⟩ ⟨_, rfl, (by omega), ⟨rfl, rfl⟩⟩

set_option maxHeartbeats 4000000 in
set_option maxRecDepth 100000 in
theorem zc_allow {l : Launch} {G : tb_G} (hl : l.stackTraces = false) (n : Nat) (J : zJ)     : tz_Ok l G M_X6_allowSteps 0 0 0 [.ref 158] n J (zqv (fun J' => zup J 158 8 100 = J')) zN := by
  refine tz_Ok.of hl (by decide +kernel) rfl (tb_c1 rfl) (Nat.le_of_ble_eq_true rfl) ?_
  show tz_At l G M_X6_allowSteps (tb_rm 0 0 0) none (tb_ZM G 0 0 (zQ n 0 (zqv (fun J' => zup J 158 8 100 = J'))) (zX n 0 zN)) 0 0 n J 0 [some (.ref 158)] []
  refine tz_aload_n (pc := 0) dX6_allowSteps_0 rfl rfl ?_
  refine tz_bipush (pc := 1) dX6_allowSteps_1 (by decide) ?_
  refine tz_pI (pc := 3) (kz := 8) dX6_allowSteps_3 fl_X6_25 i_158_8 rfl rfl (by decide) ?_
  exact tz_vret (pc := 6) dX6_allowSteps_6 rfl (Nat.le_of_ble_eq_true rfl) (Nat.le_of_ble_eq_true rfl) ⟨Nat.le_refl _, Nat.le_add_right _ _⟩ ⟨rfl, rfl⟩

set_option maxHeartbeats 4000000 in
set_option maxRecDepth 100000 in
theorem zc_begin {l : Launch} {G : tb_G} (hl : l.stackTraces = false) (n : Nat) (J : zJ)     : tz_Ok l G M_X0_begin 1 0 0 [.ref 5] n J (zqv (fun J' => zcp (zup J 19 0 (J 6 12)) 19 61 0 0 61 = J')) zN := by
  refine tz_Ok.of hl (by decide +kernel) rfl (tb_c1 rfl) (Nat.le_of_ble_eq_true rfl) ?_
  show tz_At l G M_X0_begin (tb_rm 1 0 0) none (tb_ZM G 0 0 (zQ n 0 (zqv (fun J' => zcp (zup J 19 0 (J 6 12)) 19 61 0 0 61 = J'))) (zX n 0 zN)) 0 0 n J 0 [some (.ref 5)] []
  refine tz_aload_n (pc := 0) dX0_begin_0 rfl rfl ?_
  refine tz_fR (pc := 1) dX0_begin_1 fl_X0_36 r_5_1 ?_
  refine tz_fR (pc := 4) dX0_begin_4 fl_X0_40 r_18_0 ?_
  refine tz_iconst (pc := 7) dX0_begin_7 ?_
  refine tz_aload_n (pc := 8) dX0_begin_8 rfl rfl ?_
  refine tz_fR (pc := 9) dX0_begin_9 fl_X0_32 r_5_0 ?_
  refine tz_fI (pc := 12) (kz := 12) (v := (J 6 12)) dX0_begin_12 fl_X0_43 i_6_12 rfl rfl (fun r_12 => ?_)
  refine tz_aS (pc := 15) (z := 0) dX0_begin_15 a_19 rfl (by decide) (by omega) ?_
  refine tz_aload_n (pc := 16) dX0_begin_16 rfl rfl ?_
  refine tz_fR (pc := 17) dX0_begin_17 fl_X0_36 r_5_1 ?_
  refine tz_fR (pc := 20) dX0_begin_20 fl_X0_40 r_18_0 ?_
  refine tz_iconst (pc := 23) dX0_begin_23 ?_
  refine tz_aload_n (pc := 24) dX0_begin_24 rfl rfl ?_
  refine tz_fR (pc := 25) dX0_begin_25 fl_X0_18 r_5_3 ?_
  refine tz_iconst (pc := 28) dX0_begin_28 ?_
  refine tz_bipush (pc := 29) dX0_begin_29 (by decide) ?_
  refine tz_cp (pc := 31) (sp := 0) (dp := 0) (ln := 61) dX0_begin_31 ml_X0_48 a_19 a_61 rfl rfl (by decide) (Nat.le_of_ble_eq_true rfl) (by decide +kernel) ?_
  exact tz_vret (pc := 34) dX0_begin_34 rfl (Nat.le_of_ble_eq_true rfl) (Nat.le_of_ble_eq_true rfl) ⟨Nat.le_refl _, Nat.le_add_right _ _⟩ ⟨rfl, rfl⟩

set_option maxHeartbeats 4000000 in
set_option maxRecDepth 100000 in
theorem zc1_keep0 {l : Launch} {G : tb_G} (hl : l.stackTraces = false) (n : Nat) (J : zJ)    (hac : J 5 6 = 0) (hfi : J 5 5 = 0) : tz_Ok l G M_X0_keep 1 0 0 [.ref 5] n J (zqv (fun J' => zOf (zbut [5, 21]) J' J)) zN := by
  refine tz_Ok.of hl (by decide +kernel) rfl (tb_c1 rfl) (Nat.le_of_ble_eq_true rfl) ?_
  show tz_At l G M_X0_keep (tb_rm 1 0 0) none (tb_ZM G 0 0 (zQ n 0 (zqv (fun J' => zOf (zbut [5, 21]) J' J))) (zX n 0 zN)) 0 0 n J 0 [some (.ref 5)] []
  refine tz_aload_n (pc := 0) dX0_keep_0 rfl rfl ?_
  refine tz_fI (pc := 1) (kz := 6) (v := 0) dX0_keep_1 fl_X0_29 i_5_6 rfl hac (fun _ => ?_)
  refine tz_bipush (pc := 4) dX0_keep_4 (by decide) ?_
  refine tz_icmp_neT (pc := 6) (tgt := 32) (by decide) dX0_keep_6 (by decide) (by decide) (by decide) ?_
  refine tz_aload_n (pc := 32) dX0_keep_32 rfl rfl ?_
  refine tz_fR (pc := 33) dX0_keep_33 fl_X0_18 r_5_3 ?_
  refine tz_iconst (pc := 36) dX0_keep_36 ?_
  refine tz_aload_n (pc := 37) dX0_keep_37 rfl rfl ?_
  refine tz_fR (pc := 38) dX0_keep_38 fl_X0_13 r_5_2 ?_
  refine tz_aload_n (pc := 41) dX0_keep_41 rfl rfl ?_
  refine tz_fI (pc := 42) (kz := 5) (v := 0) dX0_keep_42 fl_X0_25 i_5_5 rfl hfi (fun _ => ?_)
  refine tz_aload_n (pc := 45) dX0_keep_45 rfl rfl ?_
  refine tz_fI (pc := 46) (kz := 6) (v := 0) dX0_keep_46 fl_X0_29 i_5_6 rfl hac (fun _ => ?_)
  refine tz_iadd (pc := 49) (v := 0) dX0_keep_49 (by decide) ?_
  refine tz_bipush (pc := 50) dX0_keep_50 (by decide) ?_
  refine tz_irem (pc := 52) (a := 0) (b := 40) (v := 0) dX0_keep_52 (by omega) (by omega) (by decide) ?_
  refine tz_aR (pc := 53) (z := 0) dX0_keep_53 b_20_0 rfl (by decide) ?_
  refine tz_iconst (pc := 54) dX0_keep_54 ?_
  refine tz_bipush (pc := 55) dX0_keep_55 (by decide) ?_
  refine tz_cp (pc := 57) (sp := 0) (dp := 0) (ln := 61) dX0_keep_57 ml_X0_48 a_61 a_21 rfl rfl (by decide) (Nat.le_of_ble_eq_true rfl) (by decide +kernel) ?_
  refine tz_aload_n (pc := 60) dX0_keep_60 rfl rfl ?_
  refine tz_dup (pc := 61) dX0_keep_61 rfl ?_
  refine tz_fI (pc := 62) (kz := 6) (v := 0) dX0_keep_62 fl_X0_29 i_5_6 rfl hac (fun _ => ?_)
  refine tz_iconst (pc := 65) dX0_keep_65 ?_
  refine tz_iadd (pc := 66) (v := 1) dX0_keep_66 (by decide) ?_
  refine tz_pI (pc := 67) (kz := 6) dX0_keep_67 fl_X0_29 i_5_6 rfl rfl (by decide) ?_
  exact tz_vret (pc := 70) dX0_keep_70 rfl (Nat.le_of_ble_eq_true rfl) (Nat.le_of_ble_eq_true rfl) ⟨Nat.le_refl _, Nat.le_add_right _ _⟩ ⟨rfl, zOf.up rfl (zOf.cp rfl zOf.rf)⟩

set_option maxHeartbeats 4000000 in
set_option maxRecDepth 100000 in
theorem zc_refused {l : Launch} {G : tb_G} (hl : l.stackTraces = false) (n : Nat) (J : zJ) (w : Int) (a : Int) (hr_w : -2147483648 ≤ w ∧ w < 2147483648) (hr_a : -2147483648 ≤ a ∧ a < 2147483648)  (h0 : 0 ≤ w ∧ w < 4) : tz_Ok l G M_X11_refused 0 0 0 [.ref 0, zi w, zi a] n J (zqi (fun z J' => a = z ∧ zOf (zbut [62]) J' J)) zN := by
  refine tz_Ok.of hl (by decide +kernel) rfl (tb_c1 rfl) (Nat.le_of_ble_eq_true rfl) ?_
  show tz_At l G M_X11_refused (tb_rm 0 0 0) none (tb_ZM G 0 0 (zQ n 0 (zqi (fun z J' => a = z ∧ zOf (zbut [62]) J' J))) (zX n 0 zN)) 0 0 n J 0 [some (.ref 0), some (zi w), some (zi a)] []
  refine tz_aload_n (pc := 0) dX11_refused_0 rfl rfl ?_
  refine tz_fR (pc := 1) dX11_refused_1 fl_X11_29 r_0_1 ?_
  refine tz_fR (pc := 4) dX11_refused_4 fl_X11_142 r_5_4 ?_
  refine tz_iload_n (pc := 7) dX11_refused_7 rfl rfl ?_
  refine tz_dup2 (pc := 8) dX11_refused_8 rfl rfl ?_
  refine tz_aL (pc := 9) (z := w) (v := (J 62 w)) dX11_refused_9 a_62 rfl (by omega) rfl (fun r_9 => ?_)
  refine tz_iconst (pc := 10) dX11_refused_10 ?_
  refine tz_iadd (pc := 11) (v := (J 62 w) + 1) dX11_refused_11 rfl ?_
  refine tz_tw ?_
  have rw_12 := zw_rg ((J 62 w) + 1)
  refine tz_aS (pc := 12) (z := w) dX11_refused_12 a_62 rfl (by omega) (zw_rg _) ?_
  refine tz_iload_n (pc := 13) dX11_refused_13 rfl rfl ?_
  exact tz_iret (pc := 14) (z := a) dX11_refused_14 rfl (Nat.le_of_ble_eq_true rfl) (Nat.le_of_ble_eq_true rfl) ⟨Nat.le_refl _, Nat.le_add_right _ _⟩ ⟨_, rfl, (by omega), ⟨rfl, zOf.up rfl zOf.rf⟩⟩

set_option maxHeartbeats 4000000 in
set_option maxRecDepth 100000 in
theorem zc1_settled {l : Launch} {G : tb_G} (hl : l.stackTraces = false) (n : Nat) (J : zJ) (a : Int) (hr_a : -2147483648 ≤ a ∧ a < 2147483648)  (ha : 0 ≤ a) (hac : J 5 6 = 0) (hfi : J 5 5 = 0) : tz_Ok l G M_X11_settled 2 0 0 [.ref 0, zi a] n J (zqi (fun z J' => a = z ∧ zOf (zbut [5, 21]) J' J)) zN := by
  refine tz_Ok.of hl (by decide +kernel) rfl (tb_c1 rfl) (Nat.le_of_ble_eq_true rfl) ?_
  show tz_At l G M_X11_settled (tb_rm 2 0 0) none (tb_ZM G 0 0 (zQ n 0 (zqi (fun z J' => a = z ∧ zOf (zbut [5, 21]) J' J))) (zX n 0 zN)) 0 0 n J 0 [some (.ref 0), some (zi a)] []
  refine tz_iload_n (pc := 0) dX11_settled_0 rfl rfl ?_
  refine tz_if_geT (pc := 1) (tgt := 18) ha dX11_settled_1 (by decide) (by omega) ?_
  refine tz_aload_n (pc := 18) dX11_settled_18 rfl rfl ?_
  refine tz_fR (pc := 19) dX11_settled_19 fl_X11_29 r_0_1 ?_
  refine tz_cV (pc := 22) (zc1_keep0 hl n _ hac hfi) vl_X11_305 dX11_settled_22 o_5 rfl rfl (Nat.le_of_ble_eq_true rfl) ⟨(Nat.le_of_ble_eq_true rfl), (Nat.le_of_ble_eq_true rfl)⟩ rfl rfl (Nat.le_of_ble_eq_true rfl) (Nat.le_of_ble_eq_true rfl) (fun r9 J_22 hq9 => ?_)
  obtain ⟨rfl, fk⟩ := hq9
  refine tz_iload_n (pc := 25) dX11_settled_25 rfl rfl ?_
  exact tz_iret (pc := 26) (z := a) dX11_settled_26 rfl (Nat.le_of_ble_eq_true rfl) (Nat.le_of_ble_eq_true rfl) ⟨Nat.le_refl _, Nat.le_add_right _ _⟩ ⟨_, rfl, (by omega), ⟨rfl, fk⟩⟩

set_option maxHeartbeats 4000000 in
set_option maxRecDepth 100000 in
theorem zc_isVarN {l : Launch} {G : tb_G} (hl : l.stackTraces = false) (n : Nat) (J : zJ) (v : Int) (hr_v : -2147483648 ≤ v ∧ v < 2147483648)   : tz_Ok l G M_X11_isVariableNumber 0 0 0 [zi v] n J (zqi (fun z J' => J = J' ∧ (if 0 ≤ v ∧ v < 8 then 1 else 0) = z)) zN := by
  refine tz_Ok.of hl (by decide +kernel) rfl (tb_c1 rfl) (Nat.le_of_ble_eq_true rfl) ?_
  show tz_At l G M_X11_isVariableNumber (tb_rm 0 0 0) none (tb_ZM G 0 0 (zQ n 0 (zqi (fun z J' => J = J' ∧ (if 0 ≤ v ∧ v < 8 then 1 else 0) = z))) (zX n 0 zN)) 0 0 n J 0 [some (zi v)] []
  refine tz_iload_n (pc := 0) dX11_isVariableNumber_0 rfl rfl ?_
  refine tz_if_lt (pc := 1) (tgt := 14) dX11_isVariableNumber_1 (by decide) (by omega) (fun h_1 => ?_) (fun h_1 => ?_)
  · refine tz_iconst (pc := 14) dX11_isVariableNumber_14 ?_
    exact tz_zret (pc := 15) (z := 0) dX11_isVariableNumber_15 rfl (Or.inl rfl) (Nat.le_of_ble_eq_true rfl) (Nat.le_of_ble_eq_true rfl) ⟨Nat.le_refl _, Nat.le_add_right _ _⟩ ⟨_, rfl, (by decide), ⟨rfl, by split <;> omega⟩⟩
  · refine tz_iload_n (pc := 4) dX11_isVariableNumber_4 rfl rfl ?_
    refine tz_bipush (pc := 5) dX11_isVariableNumber_5 (by decide) ?_
    refine tz_icmp_ge (pc := 7) (tgt := 14) dX11_isVariableNumber_7 (by decide) (by omega) (by decide) (fun h_7 => ?_) (fun h_7 => ?_)
    · refine tz_iconst (pc := 14) dX11_isVariableNumber_14 ?_
      exact tz_zret (pc := 15) (z := 0) dX11_isVariableNumber_15 rfl (Or.inl rfl) (Nat.le_of_ble_eq_true rfl) (Nat.le_of_ble_eq_true rfl) ⟨Nat.le_refl _, Nat.le_add_right _ _⟩ ⟨_, rfl, (by decide), ⟨rfl, by split <;> omega⟩⟩
    · refine tz_iconst (pc := 10) dX11_isVariableNumber_10 ?_
      refine tz_goto (pc := 11) (tgt := 15) dX11_isVariableNumber_11 (by decide) ?_
      exact tz_zret (pc := 15) (z := 1) dX11_isVariableNumber_15 rfl (Or.inr rfl) (Nat.le_of_ble_eq_true rfl) (Nat.le_of_ble_eq_true rfl) ⟨Nat.le_refl _, Nat.le_add_right _ _⟩ ⟨_, rfl, (by decide), ⟨rfl, by split <;> omega⟩⟩

set_option maxHeartbeats 4000000 in
set_option maxRecDepth 100000 in
theorem zc_tellRoom {l : Launch} {G : tb_G} (hl : l.stackTraces = false) (n : Nat) (J : zJ) (r : Int) (hr_r : -2147483648 ≤ r ∧ r < 2147483648)   : tz_Ok l G M_X1_tellRoom 0 0 0 [.ref 18, zi r] n J (zqv (fun J' => zOf (zbut [19]) J' J)) zN := by
  refine tz_Ok.of hl (by decide +kernel) rfl (tb_c1 rfl) (Nat.le_of_ble_eq_true rfl) ?_
  show tz_At l G M_X1_tellRoom (tb_rm 0 0 0) none (tb_ZM G 0 0 (zQ n 0 (zqv (fun J' => zOf (zbut [19]) J' J))) (zX n 0 zN)) 0 0 n J 0 [some (.ref 18), some (zi r)] []
  refine tz_aload_n (pc := 0) dX1_tellRoom_0 rfl rfl ?_
  refine tz_fR (pc := 1) dX1_tellRoom_1 fl_X1_11 r_18_0 ?_
  refine tz_iconst (pc := 4) dX1_tellRoom_4 ?_
  refine tz_iload_n (pc := 5) dX1_tellRoom_5 rfl rfl ?_
  refine tz_aS (pc := 6) (z := 1) dX1_tellRoom_6 a_19 rfl (by decide) (by omega) ?_
  refine tz_aload_n (pc := 7) dX1_tellRoom_7 rfl rfl ?_
  refine tz_fR (pc := 8) dX1_tellRoom_8 fl_X1_11 r_18_0 ?_
  refine tz_bipush (pc := 11) dX1_tellRoom_11 (by decide) ?_
  refine tz_iconst (pc := 13) dX1_tellRoom_13 ?_
  refine tz_aS (pc := 14) (z := 6) dX1_tellRoom_14 a_19 rfl (by decide) (by decide) ?_
  exact tz_vret (pc := 15) dX1_tellRoom_15 rfl (Nat.le_of_ble_eq_true rfl) (Nat.le_of_ble_eq_true rfl) ⟨Nat.le_refl _, Nat.le_add_right _ _⟩ ⟨rfl, zOf.up rfl (zOf.up rfl zOf.rf)⟩

set_option maxHeartbeats 4000000 in
set_option maxRecDepth 100000 in
theorem zc1_cut0 {l : Launch} {G : tb_G} (hl : l.stackTraces = false) (n : Nat) (J : zJ)   (m : Int) (TV : zTV m J) : tz_Ok l G M_X9_cutTo 2 0 0 [.ref 6, zi 0] n J (zqv (fun J' => zOf (zbut [6, 16]) J' J)) zN := by
  refine tz_Ok.of hl (by decide +kernel) rfl (tb_c1 rfl) (Nat.le_of_ble_eq_true rfl) ?_
  show tz_At l G M_X9_cutTo (tb_rm 2 0 0) none (tb_ZM G 0 0 (zQ n 0 (zqv (fun J' => zOf (zbut [6, 16]) J' J))) (zX n 0 zN)) 0 0 n J 0 [some (.ref 6), some (zi 0), none] []
  have hm := TV.2.1
  refine tz_aload_n (pc := 0) dX9_cutTo_0 rfl rfl ?_
  refine tz_fI (pc := 1) (kz := 12) (v := m) dX9_cutTo_1 fl_X9_45 i_6_12 rfl TV.1.2 (fun r_1 => ?_)
  refine tz_iconst (pc := 4) dX9_cutTo_4 ?_
  refine tz_isub (pc := 5) (v := m - 1) dX9_cutTo_5 rfl ?_
  refine tz_istore_n (pc := 6) (L2 := [_, _, _]) dX9_cutTo_6 rfl (by decide) rfl ?_
  have loop7 : ∀ (f9 : Nat) (t : Int) (J1 : zJ), ((t + 1).toNat) < f9 → (-1 ≤ t ∧ t < m) → (zOf (zbut [6, 16]) J1 J) → tz_At l G M_X9_cutTo (tb_rm 2 0 0) none (tb_ZM G 0 0 (zQ n 0 (zqv (fun J' => zOf (zbut [6, 16]) J' J))) (zX n 0 zN)) 0 0 n J1 7 [some (.ref 6), some (zi 0), some (zi t)] [] := by
    intro f9
    induction f9 with
    | zero => intro t J1 hm9; exact absurd hm9 (Nat.not_lt_zero _)
    | succ f9 ih7 =>
      intro t J1 hm7 ht fr
      refine tz_iload_n (pc := 7) dX9_cutTo_7 rfl rfl ?_
      refine tz_iload_n (pc := 8) dX9_cutTo_8 rfl rfl ?_
      refine tz_icmp_lt (pc := 9) (tgt := 43) dX9_cutTo_9 (by decide) (by omega) (by decide) (fun h_9 => ?_) (fun h_9 => ?_)
      · exact tz_vret (pc := 43) dX9_cutTo_43 rfl (Nat.le_of_ble_eq_true rfl) (Nat.le_of_ble_eq_true rfl) ⟨Nat.le_refl _, Nat.le_add_right _ _⟩ ⟨rfl, fr⟩
      · refine tz_iload_n (pc := 12) dX9_cutTo_12 rfl rfl ?_
        refine tz_if_lt (pc := 13) (tgt := 43) dX9_cutTo_13 (by decide) (by omega) (fun h_13 => ?_) (fun h_13 => ?_)
        · exact tz_vret (pc := 43) dX9_cutTo_43 rfl (Nat.le_of_ble_eq_true rfl) (Nat.le_of_ble_eq_true rfl) ⟨Nat.le_refl _, Nat.le_add_right _ _⟩ ⟨rfl, fr⟩
        · have ht9 := TV.2.2.2 t (by omega) (by omega)
          refine tz_aload_n (pc := 16) dX9_cutTo_16 rfl rfl ?_
          refine tz_fR (pc := 17) dX9_cutTo_17 fl_X9_39 r_6_10 ?_
          refine tz_aload_n (pc := 20) dX9_cutTo_20 rfl rfl ?_
          refine tz_iload_n (pc := 21) dX9_cutTo_21 rfl rfl ?_
          refine tz_cV (pc := 22) (zc1_bucket hl n _ _ (by omega) (by omega) (z_lt1 (b := J 7 t) (Eq.trans (congrFun (fr 7 rfl) t) rfl) ht9.1.1) (Eq.trans (Eq.trans (congrFun (fr 8 rfl) t) rfl) ht9.1.2.1)) vl_X9_71 dX9_cutTo_22 o_6 rfl rfl (Nat.le_of_ble_eq_true rfl) ⟨(Nat.le_of_ble_eq_true rfl), (Nat.le_of_ble_eq_true rfl)⟩ rfl rfl (Nat.le_of_ble_eq_true rfl) (Nat.le_of_ble_eq_true rfl) (fun r9 J_22 hq9 => ?_)
          obtain ⟨z_22, rfl, hz_22, rfl, rfl⟩ := hq9
          refine tz_aload_n (pc := 25) dX9_cutTo_25 rfl rfl ?_
          refine tz_fR (pc := 26) dX9_cutTo_26 fl_X9_36 r_6_9 ?_
          refine tz_iload_n (pc := 29) dX9_cutTo_29 rfl rfl ?_
          refine tz_aL (pc := 30) (z := t) (v := (J 15 t)) dX9_cutTo_30 a_15 rfl (by omega) (Eq.trans (congrFun (fr 15 rfl) t) rfl) (fun r_30 => ?_)
          refine tz_aS (pc := 31) (z := 0) dX9_cutTo_31 a_16 rfl (by decide) (by omega) ?_
          refine tz_aload_n (pc := 32) dX9_cutTo_32 rfl rfl ?_
          refine tz_iload_n (pc := 33) dX9_cutTo_33 rfl rfl ?_
          refine tz_pI (pc := 34) (kz := 12) dX9_cutTo_34 fl_X9_45 i_6_12 rfl rfl (by omega) ?_
          refine tz_iinc (pc := 37) (z := t - 1) (L2 := [_, _, _]) dX9_cutTo_37 rfl (by omega) rfl ?_
          refine tz_goto (pc := 40) (tgt := 7) dX9_cutTo_40 (by decide) ?_
          exact ih7 (t - 1) _ (by omega) (by omega) (zOf.up rfl (zOf.up rfl fr))
  exact loop7 _ _ _ (Nat.lt_succ_self _) (by omega) zOf.rf

set_option maxHeartbeats 4000000 in
set_option maxRecDepth 100000 in
theorem zc1_back {l : Launch} {G : tb_G} (hl : l.stackTraces = false) (n : Nat) (J : zJ)   (m : Int) (TV : zTV m J) (hz : J 61 0 = 0) : tz_Ok l G M_X0_takeBack 3 0 0 [.ref 5, .ref 61] n J (zqv (fun J' => zOf (zbut [6, 16, 19]) J' J)) zN := by
  refine tz_Ok.of hl (by decide +kernel) rfl (tb_c1 rfl) (Nat.le_of_ble_eq_true rfl) ?_
  show tz_At l G M_X0_takeBack (tb_rm 3 0 0) none (tb_ZM G 0 0 (zQ n 0 (zqv (fun J' => zOf (zbut [6, 16, 19]) J' J))) (zX n 0 zN)) 0 0 n J 0 [some (.ref 5), some (.ref 61)] []
  refine tz_aload_n (pc := 0) dX0_takeBack_0 rfl rfl ?_
  refine tz_iconst (pc := 1) dX0_takeBack_1 ?_
  refine tz_aload_n (pc := 2) dX0_takeBack_2 rfl rfl ?_
  refine tz_fR (pc := 3) dX0_takeBack_3 fl_X0_36 r_5_1 ?_
  refine tz_fR (pc := 6) dX0_takeBack_6 fl_X0_40 r_18_0 ?_
  refine tz_iconst (pc := 9) dX0_takeBack_9 ?_
  refine tz_bipush (pc := 10) dX0_takeBack_10 (by decide) ?_
  refine tz_cp (pc := 12) (sp := 0) (dp := 0) (ln := 61) dX0_takeBack_12 ml_X0_48 a_61 a_19 rfl rfl (by decide) (Nat.le_of_ble_eq_true rfl) (by decide +kernel) ?_
  refine tz_aload_n (pc := 15) dX0_takeBack_15 rfl rfl ?_
  refine tz_fR (pc := 16) dX0_takeBack_16 fl_X0_32 r_5_0 ?_
  refine tz_aload_n (pc := 19) dX0_takeBack_19 rfl rfl ?_
  refine tz_iconst (pc := 20) dX0_takeBack_20 ?_
  refine tz_aL (pc := 21) (z := 0) (v := 0) dX0_takeBack_21 a_61 rfl (by decide) hz (fun _ => ?_)
  refine tz_cV (pc := 22) (zc1_cut0 hl n _ m TV) vl_X0_58 dX0_takeBack_22 o_6 rfl rfl (Nat.le_of_ble_eq_true rfl) ⟨(Nat.le_of_ble_eq_true rfl), (Nat.le_of_ble_eq_true rfl)⟩ rfl rfl (Nat.le_of_ble_eq_true rfl) (Nat.le_of_ble_eq_true rfl) (fun r9 J_22 hq9 => ?_)
  obtain ⟨rfl, f9⟩ := hq9
  exact tz_vret (pc := 25) dX0_takeBack_25 rfl (Nat.le_of_ble_eq_true rfl) (Nat.le_of_ble_eq_true rfl) ⟨Nat.le_refl _, Nat.le_add_right _ _⟩ ⟨rfl, (zOf.mono f9 (fun c hc => by simp [zbut] at hc ⊢; omega)).tr (zOf.cp rfl zOf.rf)⟩

set_option maxHeartbeats 4000000 in
set_option maxRecDepth 100000 in
theorem zc1_roll {l : Launch} {G : tb_G} (hl : l.stackTraces = false) (n : Nat) (J : zJ)   (m : Int) (TV : zTV m J) (hz : J 61 0 = 0) : tz_Ok l G M_X0_rollBack 4 0 0 [.ref 5] n J (zqv (fun J' => zOf (zbut [6, 16, 19]) J' J)) zN := by
  refine tz_Ok.of hl (by decide +kernel) rfl (tb_c1 rfl) (Nat.le_of_ble_eq_true rfl) ?_
  show tz_At l G M_X0_rollBack (tb_rm 4 0 0) none (tb_ZM G 0 0 (zQ n 0 (zqv (fun J' => zOf (zbut [6, 16, 19]) J' J))) (zX n 0 zN)) 0 0 n J 0 [some (.ref 5)] []
  refine tz_aload_n (pc := 0) dX0_rollBack_0 rfl rfl ?_
  refine tz_aload_n (pc := 1) dX0_rollBack_1 rfl rfl ?_
  refine tz_fR (pc := 2) dX0_rollBack_2 fl_X0_18 r_5_3 ?_
  refine tz_cV (pc := 5) (zc1_back hl n _ m TV hz) vl_X0_54 dX0_rollBack_5 o_5 rfl rfl (Nat.le_of_ble_eq_true rfl) ⟨(Nat.le_of_ble_eq_true rfl), (Nat.le_of_ble_eq_true rfl)⟩ rfl rfl (Nat.le_of_ble_eq_true rfl) (Nat.le_of_ble_eq_true rfl) (fun r9 J_5 hq9 => ?_)
  obtain ⟨rfl, f9⟩ := hq9
  exact tz_vret (pc := 8) dX0_rollBack_8 rfl (Nat.le_of_ble_eq_true rfl) (Nat.le_of_ble_eq_true rfl) ⟨Nat.le_refl _, Nat.le_add_right _ _⟩ ⟨rfl, f9⟩

set_option maxHeartbeats 4000000 in
set_option maxRecDepth 100000 in
theorem zc1_lostBy {l : Launch} {G : tb_G} (hl : l.stackTraces = false) (n : Nat) (J : zJ) (s : Int) (y : Int) (hr_s : -2147483648 ≤ s ∧ s < 2147483648) (hr_y : -2147483648 ≤ y ∧ y < 2147483648)  (TV : zTV 0 J) (hy : 0 ≤ y ∧ y ≤ 20) : tz_Ok l G M_X11_lostBy 6 0 0 [.ref 0, zi s, zi y] n J (zqi (fun z J' => 0 = z ∧ (∃ m, zTV m J') ∧ zOf (zbut [141, 158, 6, 7, 8, 9, 10, 11, 12, 13, 14, 15, 16, 17]) J' J)) zN := by
  refine tz_Ok.of hl (by decide +kernel) rfl (tb_c1 rfl) (Nat.le_of_ble_eq_true rfl) ?_
  show tz_At l G M_X11_lostBy (tb_rm 6 0 0) none (tb_ZM G 0 0 (zQ n 0 (zqi (fun z J' => 0 = z ∧ (∃ m, zTV m J') ∧ zOf (zbut [141, 158, 6, 7, 8, 9, 10, 11, 12, 13, 14, 15, 16, 17]) J' J))) (zX n 0 zN)) 0 0 n J 0 [some (.ref 0), some (zi s), some (zi y), none, none, none, none] []
  refine tz_aload_n (pc := 0) dX11_lostBy_0 rfl rfl ?_
  refine tz_fR (pc := 1) dX11_lostBy_1 fl_X11_62 r_0_7 ?_
  refine tz_iload_n (pc := 4) dX11_lostBy_4 rfl rfl ?_
  refine tz_pI (pc := 5) (kz := 5) dX11_lostBy_5 fl_X11_369 i_141_5 rfl rfl (by omega) ?_
  refine tz_aload_n (pc := 8) dX11_lostBy_8 rfl rfl ?_
  refine tz_fR (pc := 9) dX11_lostBy_9 fl_X11_90 r_0_10 ?_
  refine tz_cV (pc := 12) (zc_allow hl n _) vl_X11_344 dX11_lostBy_12 o_158 rfl rfl (Nat.le_of_ble_eq_true rfl) ⟨(Nat.le_of_ble_eq_true rfl), (Nat.le_of_ble_eq_true rfl)⟩ rfl rfl (Nat.le_of_ble_eq_true rfl) (Nat.le_of_ble_eq_true rfl) (fun r9 J_12 hq9 => ?_)
  obtain ⟨rfl, rfl⟩ := hq9
  refine tz_iconst (pc := 15) dX11_lostBy_15 ?_
  refine tz_istore_n (pc := 16) (L2 := [_, _, _, _, _, _, _]) dX11_lostBy_16 rfl (by decide) rfl ?_
  refine tz_iconst (pc := 17) dX11_lostBy_17 ?_
  refine tz_istore (pc := 18) (L2 := [_, _, _, _, _, _, _]) dX11_lostBy_18 (by decide) rfl ?_
  have loop20 : ∀ (f9 : Nat) (k : Int) (m : Int) (d5 : Option Value) (d6 : Option Value) (J1 : zJ), ((y - k).toNat) < f9 → (0 ≤ k ∧ k ≤ y) → (zTV m J1) → (m ≤ k) → (zOf (zbut [141, 158, 6, 7, 8, 9, 10, 11, 12, 13, 14, 15, 16, 17]) J1 J) → tz_At l G M_X11_lostBy (tb_rm 6 0 0) none (tb_ZM G 0 0 (zQ n 0 (zqi (fun z J' => 0 = z ∧ (∃ m, zTV m J') ∧ zOf (zbut [141, 158, 6, 7, 8, 9, 10, 11, 12, 13, 14, 15, 16, 17]) J' J))) (zX n 0 zN)) 0 0 n J1 20 [some (.ref 0), some (zi s), some (zi y), some (zi 0), some (zi k), d5, d6] [] := by
    intro f9
    induction f9 with
    | zero => intro k m d5 d6 J1 hm9; exact absurd hm9 (Nat.not_lt_zero _)
    | succ f9 ih20 =>
      intro k m d5 d6 J1 hm20 hk TV1 hmk fr
      refine tz_iload (pc := 20) dX11_lostBy_20 rfl ?_
      refine tz_iload_n (pc := 22) dX11_lostBy_22 rfl rfl ?_
      refine tz_icmp_ge (pc := 23) (tgt := 100) dX11_lostBy_23 (by decide) (by omega) (by omega) (fun h_23 => ?_) (fun h_23 => ?_)
      · refine tz_iload_n (pc := 100) dX11_lostBy_100 rfl rfl ?_
        exact tz_iret (pc := 101) (z := 0) dX11_lostBy_101 rfl (Nat.le_of_ble_eq_true rfl) (Nat.le_of_ble_eq_true rfl) ⟨Nat.le_refl _, Nat.le_add_right _ _⟩ ⟨_, rfl, (by decide), ⟨rfl, ⟨m, TV1⟩, fr⟩⟩
      · refine tz_aload_n (pc := 26) dX11_lostBy_26 rfl rfl ?_
        refine tz_fR (pc := 27) dX11_lostBy_27 fl_X11_62 r_0_7 ?_
        refine tz_iconst (pc := 30) dX11_lostBy_30 ?_
        refine tz_cV (pc := 31) (zc1_drawn hl n _ _ (by decide) m TV1 (by omega)) vl_X11_372 dX11_lostBy_31 o_141 rfl rfl (Nat.le_of_ble_eq_true rfl) ⟨(Nat.le_of_ble_eq_true rfl), (Nat.le_of_ble_eq_true rfl)⟩ rfl rfl (Nat.le_of_ble_eq_true rfl) (Nat.le_of_ble_eq_true rfl) (fun r9 J_31 hq9 => ?_)
        obtain ⟨z_31, rfl, hz_31, m_31, hp1, hp2, hp3⟩ := hq9
        have hq1 := hp1.2.1
        have hq2 := hp1.2.2.2 z_31 (by omega) (by omega)
        refine tz_istore (pc := 34) (L2 := [_, _, _, _, _, _, _]) dX11_lostBy_34 (by decide) rfl ?_
        refine tz_iload (pc := 36) dX11_lostBy_36 rfl ?_
        refine tz_if_geT (pc := 38) (tgt := 46) (by omega) dX11_lostBy_38 (by decide) (by omega) ?_
        refine tz_aload_n (pc := 46) dX11_lostBy_46 rfl rfl ?_
        refine tz_fR (pc := 47) dX11_lostBy_47 fl_X11_90 r_0_10 ?_
        refine tz_iload (pc := 50) dX11_lostBy_50 rfl ?_
        refine tz_cV (pc := 52) (zc1_normal hl n _ _ hz_31 (by omega) hq2.1.1) vl_X11_347 dX11_lostBy_52 o_158 rfl rfl (Nat.le_of_ble_eq_true rfl) ⟨(Nat.le_of_ble_eq_true rfl), (Nat.le_of_ble_eq_true rfl)⟩ rfl rfl (Nat.le_of_ble_eq_true rfl) (Nat.le_of_ble_eq_true rfl) (fun r9 J_52 hq9 => ?_)
        obtain ⟨z_52, rfl, hz_52, rfl, rfl⟩ := hq9
        refine tz_istore (pc := 55) (L2 := [_, _, _, _, _, _, _]) dX11_lostBy_55 (by decide) rfl ?_
        refine tz_iload (pc := 57) dX11_lostBy_57 rfl ?_
        refine tz_if_geT (pc := 59) (tgt := 64) (by omega) dX11_lostBy_59 (by decide) (by omega) ?_
        refine tz_iload_n (pc := 64) dX11_lostBy_64 rfl rfl ?_
        refine tz_aload_n (pc := 65) dX11_lostBy_65 rfl rfl ?_
        refine tz_fR (pc := 66) dX11_lostBy_66 fl_X11_29 r_0_1 ?_
        refine tz_fR (pc := 69) dX11_lostBy_69 fl_X11_49 r_5_0 ?_
        refine tz_fR (pc := 72) dX11_lostBy_72 fl_X11_234 r_6_5 ?_
        refine tz_iload (pc := 75) dX11_lostBy_75 rfl ?_
        refine tz_aL (pc := 77) (z := z_31) (v := (J_31 11 z_31)) dX11_lostBy_77 a_11 rfl (by omega) rfl (fun r_77 => ?_)
        refine tz_aload_n (pc := 78) dX11_lostBy_78 rfl rfl ?_
        refine tz_fR (pc := 79) dX11_lostBy_79 fl_X11_29 r_0_1 ?_
        refine tz_fR (pc := 82) dX11_lostBy_82 fl_X11_49 r_5_0 ?_
        refine tz_fR (pc := 85) dX11_lostBy_85 fl_X11_234 r_6_5 ?_
        refine tz_iload (pc := 88) dX11_lostBy_88 rfl ?_
        refine tz_aL (pc := 90) (z := z_31) (v := (J_31 11 z_31)) dX11_lostBy_90 a_11 rfl (by omega) rfl (fun r_90 => ?_)
        refine tz_isub (pc := 91) (v := 0) dX11_lostBy_91 (by omega) ?_
        refine tz_iadd (pc := 92) (v := 0) dX11_lostBy_92 (by decide) ?_
        refine tz_istore_n (pc := 93) (L2 := [_, _, _, _, _, _, _]) dX11_lostBy_93 rfl (by decide) rfl ?_
        refine tz_iinc (pc := 94) (z := k + 1) (L2 := [_, _, _, _, _, _, _]) dX11_lostBy_94 rfl (by omega) rfl ?_
        refine tz_goto (pc := 97) (tgt := 20) dX11_lostBy_97 (by decide) ?_
        exact ih20 (k + 1) m_31 _ _ _ (by omega) (by omega) hp1 (by omega) (zOf.up rfl ((zOf.mono hp3 (fun c hc => by simp [zbut] at hc ⊢; omega)).tr fr))
  exact loop20 _ 0 0 none none _ (Nat.lt_succ_self _) (by omega) TV (by decide) (zOf.up rfl (zOf.up rfl zOf.rf))

set_option maxHeartbeats 4000000 in
set_option maxRecDepth 100000 in
theorem zc1_yAns {l : Launch} {G : tb_G} (hl : l.stackTraces = false) (n : Nat) (J : zJ) (w : Int) (hr_w : -2147483648 ≤ w ∧ w < 2147483648)  (h2 : J 19 2 = 0) (h3 : J 19 3 = 0) (g2 : J 61 2 = 0) (g3 : J 61 3 = 0) : tz_Ok l G M_X11_yearsAnswer 0 0 0 [.ref 0, zi 0, zi w] n J (zqi (fun z J' => J = J' ∧ 0 = z)) zN := by
  refine tz_Ok.of hl (by decide +kernel) rfl (tb_c1 rfl) (Nat.le_of_ble_eq_true rfl) ?_
  show tz_At l G M_X11_yearsAnswer (tb_rm 0 0 0) none (tb_ZM G 0 0 (zQ n 0 (zqi (fun z J' => J = J' ∧ 0 = z))) (zX n 0 zN)) 0 0 n J 0 [some (.ref 0), some (zi 0), some (zi w), none] []
  refine tz_iload_n (pc := 0) dX11_yearsAnswer_0 rfl rfl ?_
  refine tz_if_ne (pc := 1) (tgt := 6) dX11_yearsAnswer_1 (by decide) (by omega) (fun h_1 => ?_) (fun h_1 => ?_)
  · refine tz_iload_n (pc := 6) dX11_yearsAnswer_6 rfl rfl ?_
    refine tz_iconst (pc := 7) dX11_yearsAnswer_7 ?_
    refine tz_icmp_ne (pc := 8) (tgt := 15) dX11_yearsAnswer_8 (by decide) (by omega) (by decide) (fun h_8 => ?_) (fun h_8 => ?_)
    · refine tz_iconst (pc := 15) dX11_yearsAnswer_15 ?_
      refine tz_istore_n (pc := 16) (L2 := [_, _, _, _]) dX11_yearsAnswer_16 rfl (by decide) rfl ?_
      refine tz_aload_n (pc := 17) dX11_yearsAnswer_17 rfl rfl ?_
      refine tz_fR (pc := 18) dX11_yearsAnswer_18 fl_X11_29 r_0_1 ?_
      refine tz_fR (pc := 21) dX11_yearsAnswer_21 fl_X11_156 r_5_1 ?_
      refine tz_fR (pc := 24) dX11_yearsAnswer_24 fl_X11_167 r_18_0 ?_
      refine tz_iload_n (pc := 27) dX11_yearsAnswer_27 rfl rfl ?_
      refine tz_aL (pc := 28) (z := 3) (v := 0) dX11_yearsAnswer_28 a_19 rfl (by decide) h3 (fun _ => ?_)
      refine tz_aload_n (pc := 29) dX11_yearsAnswer_29 rfl rfl ?_
      refine tz_fR (pc := 30) dX11_yearsAnswer_30 fl_X11_29 r_0_1 ?_
      refine tz_fR (pc := 33) dX11_yearsAnswer_33 fl_X11_391 r_5_3 ?_
      refine tz_iload_n (pc := 36) dX11_yearsAnswer_36 rfl rfl ?_
      refine tz_aL (pc := 37) (z := 3) (v := 0) dX11_yearsAnswer_37 a_61 rfl (by decide) g3 (fun _ => ?_)
      refine tz_isub (pc := 38) (v := 0) dX11_yearsAnswer_38 (by decide) ?_
      exact tz_iret (pc := 39) (z := 0) dX11_yearsAnswer_39 rfl (Nat.le_of_ble_eq_true rfl) (Nat.le_of_ble_eq_true rfl) ⟨Nat.le_refl _, Nat.le_add_right _ _⟩ ⟨_, rfl, (by decide), ⟨rfl, rfl⟩⟩
    · refine tz_iconst (pc := 11) dX11_yearsAnswer_11 ?_
      refine tz_goto (pc := 12) (tgt := 16) dX11_yearsAnswer_12 (by decide) ?_
      refine tz_istore_n (pc := 16) (L2 := [_, _, _, _]) dX11_yearsAnswer_16 rfl (by decide) rfl ?_
      refine tz_aload_n (pc := 17) dX11_yearsAnswer_17 rfl rfl ?_
      refine tz_fR (pc := 18) dX11_yearsAnswer_18 fl_X11_29 r_0_1 ?_
      refine tz_fR (pc := 21) dX11_yearsAnswer_21 fl_X11_156 r_5_1 ?_
      refine tz_fR (pc := 24) dX11_yearsAnswer_24 fl_X11_167 r_18_0 ?_
      refine tz_iload_n (pc := 27) dX11_yearsAnswer_27 rfl rfl ?_
      refine tz_aL (pc := 28) (z := 2) (v := 0) dX11_yearsAnswer_28 a_19 rfl (by decide) h2 (fun _ => ?_)
      refine tz_aload_n (pc := 29) dX11_yearsAnswer_29 rfl rfl ?_
      refine tz_fR (pc := 30) dX11_yearsAnswer_30 fl_X11_29 r_0_1 ?_
      refine tz_fR (pc := 33) dX11_yearsAnswer_33 fl_X11_391 r_5_3 ?_
      refine tz_iload_n (pc := 36) dX11_yearsAnswer_36 rfl rfl ?_
      refine tz_aL (pc := 37) (z := 2) (v := 0) dX11_yearsAnswer_37 a_61 rfl (by decide) g2 (fun _ => ?_)
      refine tz_isub (pc := 38) (v := 0) dX11_yearsAnswer_38 (by decide) ?_
      exact tz_iret (pc := 39) (z := 0) dX11_yearsAnswer_39 rfl (Nat.le_of_ble_eq_true rfl) (Nat.le_of_ble_eq_true rfl) ⟨Nat.le_refl _, Nat.le_add_right _ _⟩ ⟨_, rfl, (by decide), ⟨rfl, rfl⟩⟩
  · refine tz_iload_n (pc := 4) dX11_yearsAnswer_4 rfl rfl ?_
    exact tz_iret (pc := 5) (z := 0) dX11_yearsAnswer_5 rfl (Nat.le_of_ble_eq_true rfl) (Nat.le_of_ble_eq_true rfl) ⟨Nat.le_refl _, Nat.le_add_right _ _⟩ ⟨_, rfl, (by decide), ⟨rfl, rfl⟩⟩

set_option maxHeartbeats 4000000 in
set_option maxRecDepth 100000 in
theorem zc_syTake {l : Launch} {G : tb_G} (hl : l.stackTraces = false) (n : Nat) (J : zJ)     : tz_Ok l G M_X8_takeFrom 1 0 0 [.ref 121, .ref 1] n J (zqv (fun J' => zOf (zbut [121, 122, 123, 124]) J' J)) zN := by
  refine tz_Ok.of hl (by decide +kernel) rfl (tb_c1 rfl) (Nat.le_of_ble_eq_true rfl) ?_
  show tz_At l G M_X8_takeFrom (tb_rm 1 0 0) none (tb_ZM G 0 0 (zQ n 0 (zqv (fun J' => zOf (zbut [121, 122, 123, 124]) J' J))) (zX n 0 zN)) 0 0 n J 0 [some (.ref 121), some (.ref 1)] []
  refine tz_aload_n (pc := 0) dX8_takeFrom_0 rfl rfl ?_
  refine tz_fR (pc := 1) dX8_takeFrom_1 fl_X8_9 r_1_0 ?_
  refine tz_iconst (pc := 4) dX8_takeFrom_4 ?_
  refine tz_aload_n (pc := 5) dX8_takeFrom_5 rfl rfl ?_
  refine tz_fR (pc := 6) dX8_takeFrom_6 fl_X8_9 r_121_0 ?_
  refine tz_iconst (pc := 9) dX8_takeFrom_9 ?_
  refine tz_bipush (pc := 10) dX8_takeFrom_10 (by decide) ?_
  refine tz_cp (pc := 12) (sp := 0) (dp := 0) (ln := 10) dX8_takeFrom_12 ml_X8_25 a_2 a_122 rfl rfl (by decide) (Nat.le_of_ble_eq_true rfl) (by decide +kernel) ?_
  refine tz_aload_n (pc := 15) dX8_takeFrom_15 rfl rfl ?_
  refine tz_fR (pc := 16) dX8_takeFrom_16 fl_X8_15 r_1_1 ?_
  refine tz_iconst (pc := 19) dX8_takeFrom_19 ?_
  refine tz_aload_n (pc := 20) dX8_takeFrom_20 rfl rfl ?_
  refine tz_fR (pc := 21) dX8_takeFrom_21 fl_X8_15 r_121_1 ?_
  refine tz_iconst (pc := 24) dX8_takeFrom_24 ?_
  refine tz_bipush (pc := 25) dX8_takeFrom_25 (by decide) ?_
  refine tz_cp (pc := 27) (sp := 0) (dp := 0) (ln := 10) dX8_takeFrom_27 ml_X8_25 a_3 a_123 rfl rfl (by decide) (Nat.le_of_ble_eq_true rfl) (by decide +kernel) ?_
  refine tz_aload_n (pc := 30) dX8_takeFrom_30 rfl rfl ?_
  refine tz_fR (pc := 31) dX8_takeFrom_31 fl_X8_18 r_1_2 ?_
  refine tz_iconst (pc := 34) dX8_takeFrom_34 ?_
  refine tz_aload_n (pc := 35) dX8_takeFrom_35 rfl rfl ?_
  refine tz_fR (pc := 36) dX8_takeFrom_36 fl_X8_18 r_121_2 ?_
  refine tz_iconst (pc := 39) dX8_takeFrom_39 ?_
  refine tz_bipush (pc := 40) dX8_takeFrom_40 (by decide) ?_
  refine tz_cp (pc := 42) (sp := 0) (dp := 0) (ln := 10) dX8_takeFrom_42 ml_X8_25 a_4 a_124 rfl rfl (by decide) (Nat.le_of_ble_eq_true rfl) (by decide +kernel) ?_
  refine tz_aload_n (pc := 45) dX8_takeFrom_45 rfl rfl ?_
  refine tz_aload_n (pc := 46) dX8_takeFrom_46 rfl rfl ?_
  refine tz_fI (pc := 47) (kz := 3) (v := (J 1 3)) dX8_takeFrom_47 fl_X8_21 i_1_3 rfl rfl (fun r_47 => ?_)
  refine tz_pI (pc := 50) (kz := 3) dX8_takeFrom_50 fl_X8_21 i_121_3 rfl rfl (by omega) ?_
  exact tz_vret (pc := 53) dX8_takeFrom_53 rfl (Nat.le_of_ble_eq_true rfl) (Nat.le_of_ble_eq_true rfl) ⟨Nat.le_refl _, Nat.le_add_right _ _⟩ ⟨rfl, (zOf.up rfl (zOf.cp rfl (zOf.cp rfl (zOf.cp rfl zOf.rf))))⟩

set_option maxHeartbeats 4000000 in
set_option maxRecDepth 100000 in
theorem zc1_teTake64 {l : Launch} {G : tb_G} (hl : l.stackTraces = false) (n : Nat) (J : zJ)    (h0 : J 6 12 = 0) : tz_Ok l G M_X9_takeFrom 1 0 0 [.ref 64, .ref 6] n J (zqv (fun J' => zOf (zbut [64, 65, 66, 67, 68, 69, 70, 71, 72, 73, 74, 75]) J' J)) zN := by
  refine tz_Ok.of hl (by decide +kernel) rfl (tb_c1 rfl) (Nat.le_of_ble_eq_true rfl) ?_
  show tz_At l G M_X9_takeFrom (tb_rm 1 0 0) none (tb_ZM G 0 0 (zQ n 0 (zqv (fun J' => zOf (zbut [64, 65, 66, 67, 68, 69, 70, 71, 72, 73, 74, 75]) J' J))) (zX n 0 zN)) 0 0 n J 0 [some (.ref 64), some (.ref 6)] []
  refine tz_aload_n (pc := 0) dX9_takeFrom_0 rfl rfl ?_
  refine tz_aload_n (pc := 1) dX9_takeFrom_1 rfl rfl ?_
  refine tz_fI (pc := 2) (kz := 12) (v := 0) dX9_takeFrom_2 fl_X9_45 i_6_12 rfl h0 (fun _ => ?_)
  refine tz_pI (pc := 5) (kz := 12) dX9_takeFrom_5 fl_X9_45 i_64_12 rfl rfl (by decide) ?_
  refine tz_aload_n (pc := 8) dX9_takeFrom_8 rfl rfl ?_
  refine tz_fR (pc := 9) dX9_takeFrom_9 fl_X9_11 r_6_1 ?_
  refine tz_iconst (pc := 12) dX9_takeFrom_12 ?_
  refine tz_aload_n (pc := 13) dX9_takeFrom_13 rfl rfl ?_
  refine tz_fR (pc := 14) dX9_takeFrom_14 fl_X9_11 r_64_1 ?_
  refine tz_iconst (pc := 17) dX9_takeFrom_17 ?_
  refine tz_aload_n (pc := 18) dX9_takeFrom_18 rfl rfl ?_
  refine tz_fI (pc := 19) (kz := 12) (v := 0) dX9_takeFrom_19 fl_X9_45 i_64_12 rfl rfl (fun _ => ?_)
  refine tz_cp (pc := 22) (sp := 0) (dp := 0) (ln := 0) dX9_takeFrom_22 ml_X9_105 a_7 a_65 rfl rfl (by decide) (Nat.le_of_ble_eq_true rfl) (by decide +kernel) ?_
  refine tz_aload_n (pc := 25) dX9_takeFrom_25 rfl rfl ?_
  refine tz_fR (pc := 26) dX9_takeFrom_26 fl_X9_15 r_6_2 ?_
  refine tz_iconst (pc := 29) dX9_takeFrom_29 ?_
  refine tz_aload_n (pc := 30) dX9_takeFrom_30 rfl rfl ?_
  refine tz_fR (pc := 31) dX9_takeFrom_31 fl_X9_15 r_64_2 ?_
  refine tz_iconst (pc := 34) dX9_takeFrom_34 ?_
  refine tz_aload_n (pc := 35) dX9_takeFrom_35 rfl rfl ?_
  refine tz_fI (pc := 36) (kz := 12) (v := 0) dX9_takeFrom_36 fl_X9_45 i_64_12 rfl rfl (fun _ => ?_)
  refine tz_cp (pc := 39) (sp := 0) (dp := 0) (ln := 0) dX9_takeFrom_39 ml_X9_105 a_8 a_66 rfl rfl (by decide) (Nat.le_of_ble_eq_true rfl) (by decide +kernel) ?_
  refine tz_aload_n (pc := 42) dX9_takeFrom_42 rfl rfl ?_
  refine tz_fR (pc := 43) dX9_takeFrom_43 fl_X9_18 r_6_3 ?_
  refine tz_iconst (pc := 46) dX9_takeFrom_46 ?_
  refine tz_aload_n (pc := 47) dX9_takeFrom_47 rfl rfl ?_
  refine tz_fR (pc := 48) dX9_takeFrom_48 fl_X9_18 r_64_3 ?_
  refine tz_iconst (pc := 51) dX9_takeFrom_51 ?_
  refine tz_aload_n (pc := 52) dX9_takeFrom_52 rfl rfl ?_
  refine tz_fI (pc := 53) (kz := 12) (v := 0) dX9_takeFrom_53 fl_X9_45 i_64_12 rfl rfl (fun _ => ?_)
  refine tz_iconst (pc := 56) dX9_takeFrom_56 ?_
  refine tz_imul (pc := 57) (v := 0) dX9_takeFrom_57 (by decide) ?_
  refine tz_cp (pc := 58) (sp := 0) (dp := 0) (ln := 0) dX9_takeFrom_58 ml_X9_105 a_9 a_67 rfl rfl (by decide) (Nat.le_of_ble_eq_true rfl) (by decide +kernel) ?_
  refine tz_aload_n (pc := 61) dX9_takeFrom_61 rfl rfl ?_
  refine tz_fR (pc := 62) dX9_takeFrom_62 fl_X9_21 r_6_4 ?_
  refine tz_iconst (pc := 65) dX9_takeFrom_65 ?_
  refine tz_aload_n (pc := 66) dX9_takeFrom_66 rfl rfl ?_
  refine tz_fR (pc := 67) dX9_takeFrom_67 fl_X9_21 r_64_4 ?_
  refine tz_iconst (pc := 70) dX9_takeFrom_70 ?_
  refine tz_aload_n (pc := 71) dX9_takeFrom_71 rfl rfl ?_
  refine tz_fI (pc := 72) (kz := 12) (v := 0) dX9_takeFrom_72 fl_X9_45 i_64_12 rfl rfl (fun _ => ?_)
  refine tz_cp (pc := 75) (sp := 0) (dp := 0) (ln := 0) dX9_takeFrom_75 ml_X9_105 a_10 a_68 rfl rfl (by decide) (Nat.le_of_ble_eq_true rfl) (by decide +kernel) ?_
  refine tz_aload_n (pc := 78) dX9_takeFrom_78 rfl rfl ?_
  refine tz_fR (pc := 79) dX9_takeFrom_79 fl_X9_24 r_6_5 ?_
  refine tz_iconst (pc := 82) dX9_takeFrom_82 ?_
  refine tz_aload_n (pc := 83) dX9_takeFrom_83 rfl rfl ?_
  refine tz_fR (pc := 84) dX9_takeFrom_84 fl_X9_24 r_64_5 ?_
  refine tz_iconst (pc := 87) dX9_takeFrom_87 ?_
  refine tz_aload_n (pc := 88) dX9_takeFrom_88 rfl rfl ?_
  refine tz_fI (pc := 89) (kz := 12) (v := 0) dX9_takeFrom_89 fl_X9_45 i_64_12 rfl rfl (fun _ => ?_)
  refine tz_cp (pc := 92) (sp := 0) (dp := 0) (ln := 0) dX9_takeFrom_92 ml_X9_105 a_11 a_69 rfl rfl (by decide) (Nat.le_of_ble_eq_true rfl) (by decide +kernel) ?_
  refine tz_aload_n (pc := 95) dX9_takeFrom_95 rfl rfl ?_
  refine tz_fR (pc := 96) dX9_takeFrom_96 fl_X9_27 r_6_6 ?_
  refine tz_iconst (pc := 99) dX9_takeFrom_99 ?_
  refine tz_aload_n (pc := 100) dX9_takeFrom_100 rfl rfl ?_
  refine tz_fR (pc := 101) dX9_takeFrom_101 fl_X9_27 r_64_6 ?_
  refine tz_iconst (pc := 104) dX9_takeFrom_104 ?_
  refine tz_aload_n (pc := 105) dX9_takeFrom_105 rfl rfl ?_
  refine tz_fI (pc := 106) (kz := 12) (v := 0) dX9_takeFrom_106 fl_X9_45 i_64_12 rfl rfl (fun _ => ?_)
  refine tz_cp (pc := 109) (sp := 0) (dp := 0) (ln := 0) dX9_takeFrom_109 ml_X9_105 a_12 a_70 rfl rfl (by decide) (Nat.le_of_ble_eq_true rfl) (by decide +kernel) ?_
  refine tz_aload_n (pc := 112) dX9_takeFrom_112 rfl rfl ?_
  refine tz_fR (pc := 113) dX9_takeFrom_113 fl_X9_30 r_6_7 ?_
  refine tz_iconst (pc := 116) dX9_takeFrom_116 ?_
  refine tz_aload_n (pc := 117) dX9_takeFrom_117 rfl rfl ?_
  refine tz_fR (pc := 118) dX9_takeFrom_118 fl_X9_30 r_64_7 ?_
  refine tz_iconst (pc := 121) dX9_takeFrom_121 ?_
  refine tz_aload_n (pc := 122) dX9_takeFrom_122 rfl rfl ?_
  refine tz_fI (pc := 123) (kz := 12) (v := 0) dX9_takeFrom_123 fl_X9_45 i_64_12 rfl rfl (fun _ => ?_)
  refine tz_cp (pc := 126) (sp := 0) (dp := 0) (ln := 0) dX9_takeFrom_126 ml_X9_105 a_13 a_71 rfl rfl (by decide) (Nat.le_of_ble_eq_true rfl) (by decide +kernel) ?_
  refine tz_aload_n (pc := 129) dX9_takeFrom_129 rfl rfl ?_
  refine tz_fR (pc := 130) dX9_takeFrom_130 fl_X9_33 r_6_8 ?_
  refine tz_iconst (pc := 133) dX9_takeFrom_133 ?_
  refine tz_aload_n (pc := 134) dX9_takeFrom_134 rfl rfl ?_
  refine tz_fR (pc := 135) dX9_takeFrom_135 fl_X9_33 r_64_8 ?_
  refine tz_iconst (pc := 138) dX9_takeFrom_138 ?_
  refine tz_aload_n (pc := 139) dX9_takeFrom_139 rfl rfl ?_
  refine tz_fI (pc := 140) (kz := 12) (v := 0) dX9_takeFrom_140 fl_X9_45 i_64_12 rfl rfl (fun _ => ?_)
  refine tz_cp (pc := 143) (sp := 0) (dp := 0) (ln := 0) dX9_takeFrom_143 ml_X9_105 a_14 a_72 rfl rfl (by decide) (Nat.le_of_ble_eq_true rfl) (by decide +kernel) ?_
  refine tz_aload_n (pc := 146) dX9_takeFrom_146 rfl rfl ?_
  refine tz_fR (pc := 147) dX9_takeFrom_147 fl_X9_36 r_6_9 ?_
  refine tz_iconst (pc := 150) dX9_takeFrom_150 ?_
  refine tz_aload_n (pc := 151) dX9_takeFrom_151 rfl rfl ?_
  refine tz_fR (pc := 152) dX9_takeFrom_152 fl_X9_36 r_64_9 ?_
  refine tz_iconst (pc := 155) dX9_takeFrom_155 ?_
  refine tz_aload_n (pc := 156) dX9_takeFrom_156 rfl rfl ?_
  refine tz_fI (pc := 157) (kz := 12) (v := 0) dX9_takeFrom_157 fl_X9_45 i_64_12 rfl rfl (fun _ => ?_)
  refine tz_cp (pc := 160) (sp := 0) (dp := 0) (ln := 0) dX9_takeFrom_160 ml_X9_105 a_15 a_73 rfl rfl (by decide) (Nat.le_of_ble_eq_true rfl) (by decide +kernel) ?_
  refine tz_aload_n (pc := 163) dX9_takeFrom_163 rfl rfl ?_
  refine tz_fR (pc := 164) dX9_takeFrom_164 fl_X9_39 r_6_10 ?_
  refine tz_iconst (pc := 167) dX9_takeFrom_167 ?_
  refine tz_aload_n (pc := 168) dX9_takeFrom_168 rfl rfl ?_
  refine tz_fR (pc := 169) dX9_takeFrom_169 fl_X9_39 r_64_10 ?_
  refine tz_iconst (pc := 172) dX9_takeFrom_172 ?_
  refine tz_sipush (pc := 173) dX9_takeFrom_173 (by decide) ?_
  refine tz_cp (pc := 176) (sp := 0) (dp := 0) (ln := 256) dX9_takeFrom_176 ml_X9_105 a_16 a_74 rfl rfl (by decide) (Nat.le_of_ble_eq_true rfl) (by decide +kernel) ?_
  exact tz_vret (pc := 179) dX9_takeFrom_179 rfl (Nat.le_of_ble_eq_true rfl) (Nat.le_of_ble_eq_true rfl) ⟨Nat.le_refl _, Nat.le_add_right _ _⟩ ⟨rfl, (zOf.cp rfl (zOf.cp rfl (zOf.cp rfl (zOf.cp rfl (zOf.cp rfl (zOf.cp rfl (zOf.cp rfl (zOf.cp rfl (zOf.cp rfl (zOf.cp rfl (zOf.up rfl zOf.rf)))))))))))⟩

set_option maxHeartbeats 4000000 in
set_option maxRecDepth 100000 in
theorem zc1_teTake125 {l : Launch} {G : tb_G} (hl : l.stackTraces = false) (n : Nat) (J : zJ)    (h0 : J 6 12 = 0) : tz_Ok l G M_X9_takeFrom 1 0 0 [.ref 125, .ref 6] n J (zqv (fun J' => zOf (zbut [125, 126, 127, 128, 129, 130, 131, 132, 133, 134, 135, 136]) J' J)) zN := by
  refine tz_Ok.of hl (by decide +kernel) rfl (tb_c1 rfl) (Nat.le_of_ble_eq_true rfl) ?_
  show tz_At l G M_X9_takeFrom (tb_rm 1 0 0) none (tb_ZM G 0 0 (zQ n 0 (zqv (fun J' => zOf (zbut [125, 126, 127, 128, 129, 130, 131, 132, 133, 134, 135, 136]) J' J))) (zX n 0 zN)) 0 0 n J 0 [some (.ref 125), some (.ref 6)] []
  refine tz_aload_n (pc := 0) dX9_takeFrom_0 rfl rfl ?_
  refine tz_aload_n (pc := 1) dX9_takeFrom_1 rfl rfl ?_
  refine tz_fI (pc := 2) (kz := 12) (v := 0) dX9_takeFrom_2 fl_X9_45 i_6_12 rfl h0 (fun _ => ?_)
  refine tz_pI (pc := 5) (kz := 12) dX9_takeFrom_5 fl_X9_45 i_125_12 rfl rfl (by decide) ?_
  refine tz_aload_n (pc := 8) dX9_takeFrom_8 rfl rfl ?_
  refine tz_fR (pc := 9) dX9_takeFrom_9 fl_X9_11 r_6_1 ?_
  refine tz_iconst (pc := 12) dX9_takeFrom_12 ?_
  refine tz_aload_n (pc := 13) dX9_takeFrom_13 rfl rfl ?_
  refine tz_fR (pc := 14) dX9_takeFrom_14 fl_X9_11 r_125_1 ?_
  refine tz_iconst (pc := 17) dX9_takeFrom_17 ?_
  refine tz_aload_n (pc := 18) dX9_takeFrom_18 rfl rfl ?_
  refine tz_fI (pc := 19) (kz := 12) (v := 0) dX9_takeFrom_19 fl_X9_45 i_125_12 rfl rfl (fun _ => ?_)
  refine tz_cp (pc := 22) (sp := 0) (dp := 0) (ln := 0) dX9_takeFrom_22 ml_X9_105 a_7 a_126 rfl rfl (by decide) (Nat.le_of_ble_eq_true rfl) (by decide +kernel) ?_
  refine tz_aload_n (pc := 25) dX9_takeFrom_25 rfl rfl ?_
  refine tz_fR (pc := 26) dX9_takeFrom_26 fl_X9_15 r_6_2 ?_
  refine tz_iconst (pc := 29) dX9_takeFrom_29 ?_
  refine tz_aload_n (pc := 30) dX9_takeFrom_30 rfl rfl ?_
  refine tz_fR (pc := 31) dX9_takeFrom_31 fl_X9_15 r_125_2 ?_
  refine tz_iconst (pc := 34) dX9_takeFrom_34 ?_
  refine tz_aload_n (pc := 35) dX9_takeFrom_35 rfl rfl ?_
  refine tz_fI (pc := 36) (kz := 12) (v := 0) dX9_takeFrom_36 fl_X9_45 i_125_12 rfl rfl (fun _ => ?_)
  refine tz_cp (pc := 39) (sp := 0) (dp := 0) (ln := 0) dX9_takeFrom_39 ml_X9_105 a_8 a_127 rfl rfl (by decide) (Nat.le_of_ble_eq_true rfl) (by decide +kernel) ?_
  refine tz_aload_n (pc := 42) dX9_takeFrom_42 rfl rfl ?_
  refine tz_fR (pc := 43) dX9_takeFrom_43 fl_X9_18 r_6_3 ?_
  refine tz_iconst (pc := 46) dX9_takeFrom_46 ?_
  refine tz_aload_n (pc := 47) dX9_takeFrom_47 rfl rfl ?_
  refine tz_fR (pc := 48) dX9_takeFrom_48 fl_X9_18 r_125_3 ?_
  refine tz_iconst (pc := 51) dX9_takeFrom_51 ?_
  refine tz_aload_n (pc := 52) dX9_takeFrom_52 rfl rfl ?_
  refine tz_fI (pc := 53) (kz := 12) (v := 0) dX9_takeFrom_53 fl_X9_45 i_125_12 rfl rfl (fun _ => ?_)
  refine tz_iconst (pc := 56) dX9_takeFrom_56 ?_
  refine tz_imul (pc := 57) (v := 0) dX9_takeFrom_57 (by decide) ?_
  refine tz_cp (pc := 58) (sp := 0) (dp := 0) (ln := 0) dX9_takeFrom_58 ml_X9_105 a_9 a_128 rfl rfl (by decide) (Nat.le_of_ble_eq_true rfl) (by decide +kernel) ?_
  refine tz_aload_n (pc := 61) dX9_takeFrom_61 rfl rfl ?_
  refine tz_fR (pc := 62) dX9_takeFrom_62 fl_X9_21 r_6_4 ?_
  refine tz_iconst (pc := 65) dX9_takeFrom_65 ?_
  refine tz_aload_n (pc := 66) dX9_takeFrom_66 rfl rfl ?_
  refine tz_fR (pc := 67) dX9_takeFrom_67 fl_X9_21 r_125_4 ?_
  refine tz_iconst (pc := 70) dX9_takeFrom_70 ?_
  refine tz_aload_n (pc := 71) dX9_takeFrom_71 rfl rfl ?_
  refine tz_fI (pc := 72) (kz := 12) (v := 0) dX9_takeFrom_72 fl_X9_45 i_125_12 rfl rfl (fun _ => ?_)
  refine tz_cp (pc := 75) (sp := 0) (dp := 0) (ln := 0) dX9_takeFrom_75 ml_X9_105 a_10 a_129 rfl rfl (by decide) (Nat.le_of_ble_eq_true rfl) (by decide +kernel) ?_
  refine tz_aload_n (pc := 78) dX9_takeFrom_78 rfl rfl ?_
  refine tz_fR (pc := 79) dX9_takeFrom_79 fl_X9_24 r_6_5 ?_
  refine tz_iconst (pc := 82) dX9_takeFrom_82 ?_
  refine tz_aload_n (pc := 83) dX9_takeFrom_83 rfl rfl ?_
  refine tz_fR (pc := 84) dX9_takeFrom_84 fl_X9_24 r_125_5 ?_
  refine tz_iconst (pc := 87) dX9_takeFrom_87 ?_
  refine tz_aload_n (pc := 88) dX9_takeFrom_88 rfl rfl ?_
  refine tz_fI (pc := 89) (kz := 12) (v := 0) dX9_takeFrom_89 fl_X9_45 i_125_12 rfl rfl (fun _ => ?_)
  refine tz_cp (pc := 92) (sp := 0) (dp := 0) (ln := 0) dX9_takeFrom_92 ml_X9_105 a_11 a_130 rfl rfl (by decide) (Nat.le_of_ble_eq_true rfl) (by decide +kernel) ?_
  refine tz_aload_n (pc := 95) dX9_takeFrom_95 rfl rfl ?_
  refine tz_fR (pc := 96) dX9_takeFrom_96 fl_X9_27 r_6_6 ?_
  refine tz_iconst (pc := 99) dX9_takeFrom_99 ?_
  refine tz_aload_n (pc := 100) dX9_takeFrom_100 rfl rfl ?_
  refine tz_fR (pc := 101) dX9_takeFrom_101 fl_X9_27 r_125_6 ?_
  refine tz_iconst (pc := 104) dX9_takeFrom_104 ?_
  refine tz_aload_n (pc := 105) dX9_takeFrom_105 rfl rfl ?_
  refine tz_fI (pc := 106) (kz := 12) (v := 0) dX9_takeFrom_106 fl_X9_45 i_125_12 rfl rfl (fun _ => ?_)
  refine tz_cp (pc := 109) (sp := 0) (dp := 0) (ln := 0) dX9_takeFrom_109 ml_X9_105 a_12 a_131 rfl rfl (by decide) (Nat.le_of_ble_eq_true rfl) (by decide +kernel) ?_
  refine tz_aload_n (pc := 112) dX9_takeFrom_112 rfl rfl ?_
  refine tz_fR (pc := 113) dX9_takeFrom_113 fl_X9_30 r_6_7 ?_
  refine tz_iconst (pc := 116) dX9_takeFrom_116 ?_
  refine tz_aload_n (pc := 117) dX9_takeFrom_117 rfl rfl ?_
  refine tz_fR (pc := 118) dX9_takeFrom_118 fl_X9_30 r_125_7 ?_
  refine tz_iconst (pc := 121) dX9_takeFrom_121 ?_
  refine tz_aload_n (pc := 122) dX9_takeFrom_122 rfl rfl ?_
  refine tz_fI (pc := 123) (kz := 12) (v := 0) dX9_takeFrom_123 fl_X9_45 i_125_12 rfl rfl (fun _ => ?_)
  refine tz_cp (pc := 126) (sp := 0) (dp := 0) (ln := 0) dX9_takeFrom_126 ml_X9_105 a_13 a_132 rfl rfl (by decide) (Nat.le_of_ble_eq_true rfl) (by decide +kernel) ?_
  refine tz_aload_n (pc := 129) dX9_takeFrom_129 rfl rfl ?_
  refine tz_fR (pc := 130) dX9_takeFrom_130 fl_X9_33 r_6_8 ?_
  refine tz_iconst (pc := 133) dX9_takeFrom_133 ?_
  refine tz_aload_n (pc := 134) dX9_takeFrom_134 rfl rfl ?_
  refine tz_fR (pc := 135) dX9_takeFrom_135 fl_X9_33 r_125_8 ?_
  refine tz_iconst (pc := 138) dX9_takeFrom_138 ?_
  refine tz_aload_n (pc := 139) dX9_takeFrom_139 rfl rfl ?_
  refine tz_fI (pc := 140) (kz := 12) (v := 0) dX9_takeFrom_140 fl_X9_45 i_125_12 rfl rfl (fun _ => ?_)
  refine tz_cp (pc := 143) (sp := 0) (dp := 0) (ln := 0) dX9_takeFrom_143 ml_X9_105 a_14 a_133 rfl rfl (by decide) (Nat.le_of_ble_eq_true rfl) (by decide +kernel) ?_
  refine tz_aload_n (pc := 146) dX9_takeFrom_146 rfl rfl ?_
  refine tz_fR (pc := 147) dX9_takeFrom_147 fl_X9_36 r_6_9 ?_
  refine tz_iconst (pc := 150) dX9_takeFrom_150 ?_
  refine tz_aload_n (pc := 151) dX9_takeFrom_151 rfl rfl ?_
  refine tz_fR (pc := 152) dX9_takeFrom_152 fl_X9_36 r_125_9 ?_
  refine tz_iconst (pc := 155) dX9_takeFrom_155 ?_
  refine tz_aload_n (pc := 156) dX9_takeFrom_156 rfl rfl ?_
  refine tz_fI (pc := 157) (kz := 12) (v := 0) dX9_takeFrom_157 fl_X9_45 i_125_12 rfl rfl (fun _ => ?_)
  refine tz_cp (pc := 160) (sp := 0) (dp := 0) (ln := 0) dX9_takeFrom_160 ml_X9_105 a_15 a_134 rfl rfl (by decide) (Nat.le_of_ble_eq_true rfl) (by decide +kernel) ?_
  refine tz_aload_n (pc := 163) dX9_takeFrom_163 rfl rfl ?_
  refine tz_fR (pc := 164) dX9_takeFrom_164 fl_X9_39 r_6_10 ?_
  refine tz_iconst (pc := 167) dX9_takeFrom_167 ?_
  refine tz_aload_n (pc := 168) dX9_takeFrom_168 rfl rfl ?_
  refine tz_fR (pc := 169) dX9_takeFrom_169 fl_X9_39 r_125_10 ?_
  refine tz_iconst (pc := 172) dX9_takeFrom_172 ?_
  refine tz_sipush (pc := 173) dX9_takeFrom_173 (by decide) ?_
  refine tz_cp (pc := 176) (sp := 0) (dp := 0) (ln := 256) dX9_takeFrom_176 ml_X9_105 a_16 a_135 rfl rfl (by decide) (Nat.le_of_ble_eq_true rfl) (by decide +kernel) ?_
  exact tz_vret (pc := 179) dX9_takeFrom_179 rfl (Nat.le_of_ble_eq_true rfl) (Nat.le_of_ble_eq_true rfl) ⟨Nat.le_refl _, Nat.le_add_right _ _⟩ ⟨rfl, (zOf.cp rfl (zOf.cp rfl (zOf.cp rfl (zOf.cp rfl (zOf.cp rfl (zOf.cp rfl (zOf.cp rfl (zOf.cp rfl (zOf.cp rfl (zOf.cp rfl (zOf.up rfl zOf.rf)))))))))))⟩

set_option maxHeartbeats 4000000 in
set_option maxRecDepth 100000 in
theorem zc_leTake76 {l : Launch} {G : tb_G} (hl : l.stackTraces = false) (n : Nat) (J : zJ)     : tz_Ok l G M_X1_takeFrom 1 0 0 [.ref 76, .ref 18] n J (zqv (fun J' => zOf (zbut [77]) J' J)) zN := by
  refine tz_Ok.of hl (by decide +kernel) rfl (tb_c1 rfl) (Nat.le_of_ble_eq_true rfl) ?_
  show tz_At l G M_X1_takeFrom (tb_rm 1 0 0) none (tb_ZM G 0 0 (zQ n 0 (zqv (fun J' => zOf (zbut [77]) J' J))) (zX n 0 zN)) 0 0 n J 0 [some (.ref 76), some (.ref 18)] []
  refine tz_aload_n (pc := 0) dX1_takeFrom_0 rfl rfl ?_
  refine tz_fR (pc := 1) dX1_takeFrom_1 fl_X1_11 r_18_0 ?_
  refine tz_iconst (pc := 4) dX1_takeFrom_4 ?_
  refine tz_aload_n (pc := 5) dX1_takeFrom_5 rfl rfl ?_
  refine tz_fR (pc := 6) dX1_takeFrom_6 fl_X1_11 r_76_0 ?_
  refine tz_iconst (pc := 9) dX1_takeFrom_9 ?_
  refine tz_bipush (pc := 10) dX1_takeFrom_10 (by decide) ?_
  refine tz_cp (pc := 12) (sp := 0) (dp := 0) (ln := 61) dX1_takeFrom_12 ml_X1_25 a_19 a_77 rfl rfl (by decide) (Nat.le_of_ble_eq_true rfl) (by decide +kernel) ?_
  exact tz_vret (pc := 15) dX1_takeFrom_15 rfl (Nat.le_of_ble_eq_true rfl) (Nat.le_of_ble_eq_true rfl) ⟨Nat.le_refl _, Nat.le_add_right _ _⟩ ⟨rfl, (zOf.cp rfl zOf.rf)⟩

set_option maxHeartbeats 4000000 in
set_option maxRecDepth 100000 in
theorem zc_leTake137 {l : Launch} {G : tb_G} (hl : l.stackTraces = false) (n : Nat) (J : zJ)     : tz_Ok l G M_X1_takeFrom 1 0 0 [.ref 137, .ref 18] n J (zqv (fun J' => zOf (zbut [138]) J' J)) zN := by
  refine tz_Ok.of hl (by decide +kernel) rfl (tb_c1 rfl) (Nat.le_of_ble_eq_true rfl) ?_
  show tz_At l G M_X1_takeFrom (tb_rm 1 0 0) none (tb_ZM G 0 0 (zQ n 0 (zqv (fun J' => zOf (zbut [138]) J' J))) (zX n 0 zN)) 0 0 n J 0 [some (.ref 137), some (.ref 18)] []
  refine tz_aload_n (pc := 0) dX1_takeFrom_0 rfl rfl ?_
  refine tz_fR (pc := 1) dX1_takeFrom_1 fl_X1_11 r_18_0 ?_
  refine tz_iconst (pc := 4) dX1_takeFrom_4 ?_
  refine tz_aload_n (pc := 5) dX1_takeFrom_5 rfl rfl ?_
  refine tz_fR (pc := 6) dX1_takeFrom_6 fl_X1_11 r_137_0 ?_
  refine tz_iconst (pc := 9) dX1_takeFrom_9 ?_
  refine tz_bipush (pc := 10) dX1_takeFrom_10 (by decide) ?_
  refine tz_cp (pc := 12) (sp := 0) (dp := 0) (ln := 61) dX1_takeFrom_12 ml_X1_25 a_19 a_138 rfl rfl (by decide) (Nat.le_of_ble_eq_true rfl) (by decide +kernel) ?_
  exact tz_vret (pc := 15) dX1_takeFrom_15 rfl (Nat.le_of_ble_eq_true rfl) (Nat.le_of_ble_eq_true rfl) ⟨Nat.le_refl _, Nat.le_add_right _ _⟩ ⟨rfl, (zOf.cp rfl zOf.rf)⟩

set_option maxHeartbeats 4000000 in
set_option maxRecDepth 100000 in
theorem zc1_coTake {l : Launch} {G : tb_G} (hl : l.stackTraces = false) (n : Nat) (J : zJ)    (h0 : J 6 12 = 0) (h1 : J 5 6 = 0) : tz_Ok l G M_X0_takeFrom 2 0 0 [.ref 63, .ref 5] n J (zqv (fun J' => zOf (zbut [77, 64, 65, 66, 67, 68, 69, 70, 71, 72, 73, 74, 75, 63, 120]) J' J)) zN := by
  refine tz_Ok.of hl (by decide +kernel) rfl (tb_c1 rfl) (Nat.le_of_ble_eq_true rfl) ?_
  show tz_At l G M_X0_takeFrom (tb_rm 2 0 0) none (tb_ZM G 0 0 (zQ n 0 (zqv (fun J' => zOf (zbut [77, 64, 65, 66, 67, 68, 69, 70, 71, 72, 73, 74, 75, 63, 120]) J' J))) (zX n 0 zN)) 0 0 n J 0 [some (.ref 63), some (.ref 5), none, none] []
  refine tz_aload_n (pc := 0) dX0_takeFrom_0 rfl rfl ?_
  refine tz_fR (pc := 1) dX0_takeFrom_1 fl_X0_32 r_63_0 ?_
  refine tz_aload_n (pc := 4) dX0_takeFrom_4 rfl rfl ?_
  refine tz_fR (pc := 5) dX0_takeFrom_5 fl_X0_32 r_5_0 ?_
  refine tz_cV (pc := 8) (zc1_teTake64 hl n _ h0) vl_X0_62 dX0_takeFrom_8 o_64 rfl rfl (Nat.le_of_ble_eq_true rfl) ⟨(Nat.le_of_ble_eq_true rfl), (Nat.le_of_ble_eq_true rfl)⟩ rfl rfl (Nat.le_of_ble_eq_true rfl) (Nat.le_of_ble_eq_true rfl) (fun r9 J_8 hq9 => ?_)
  obtain ⟨rfl, f_8⟩ := hq9
  refine tz_aload_n (pc := 11) dX0_takeFrom_11 rfl rfl ?_
  refine tz_fR (pc := 12) dX0_takeFrom_12 fl_X0_36 r_63_1 ?_
  refine tz_aload_n (pc := 15) dX0_takeFrom_15 rfl rfl ?_
  refine tz_fR (pc := 16) dX0_takeFrom_16 fl_X0_36 r_5_1 ?_
  refine tz_cV (pc := 19) (zc_leTake76 hl n _) vl_X0_66 dX0_takeFrom_19 o_76 rfl rfl (Nat.le_of_ble_eq_true rfl) ⟨(Nat.le_of_ble_eq_true rfl), (Nat.le_of_ble_eq_true rfl)⟩ rfl rfl (Nat.le_of_ble_eq_true rfl) (Nat.le_of_ble_eq_true rfl) (fun r9 J_19 hq9 => ?_)
  obtain ⟨rfl, f_19⟩ := hq9
  refine tz_aload_n (pc := 22) dX0_takeFrom_22 rfl rfl ?_
  refine tz_aload_n (pc := 23) dX0_takeFrom_23 rfl rfl ?_
  refine tz_fI (pc := 24) (kz := 5) (v := (J 5 5)) dX0_takeFrom_24 fl_X0_25 i_5_5 rfl (Eq.trans (congrFun (f_19 5 rfl) 5) (Eq.trans (congrFun (f_8 5 rfl) 5) rfl)) (fun r_24 => ?_)
  refine tz_pI (pc := 27) (kz := 5) dX0_takeFrom_27 fl_X0_25 i_63_5 rfl rfl (by omega) ?_
  refine tz_aload_n (pc := 30) dX0_takeFrom_30 rfl rfl ?_
  refine tz_aload_n (pc := 31) dX0_takeFrom_31 rfl rfl ?_
  refine tz_fI (pc := 32) (kz := 6) (v := 0) dX0_takeFrom_32 fl_X0_29 i_5_6 rfl (Eq.trans (congrFun (f_19 5 rfl) 6) (Eq.trans (congrFun (f_8 5 rfl) 6) h1)) (fun _ => ?_)
  refine tz_pI (pc := 35) (kz := 6) dX0_takeFrom_35 fl_X0_29 i_63_6 rfl rfl (by decide) ?_
  refine tz_iconst (pc := 38) dX0_takeFrom_38 ?_
  refine tz_istore_n (pc := 39) (L2 := [_, _, _, _]) dX0_takeFrom_39 rfl (by decide) rfl ?_
  refine tz_iload_n (pc := 40) dX0_takeFrom_40 rfl rfl ?_
  refine tz_aload_n (pc := 41) dX0_takeFrom_41 rfl rfl ?_
  refine tz_fI (pc := 42) (kz := 6) (v := 0) dX0_takeFrom_42 fl_X0_29 i_63_6 rfl rfl (fun _ => ?_)
  refine tz_icmp_geT (pc := 45) (tgt := 83) (by decide) dX0_takeFrom_45 (by decide) (by decide) (by decide) ?_
  refine tz_aload_n (pc := 83) dX0_takeFrom_83 rfl rfl ?_
  refine tz_fR (pc := 84) dX0_takeFrom_84 fl_X0_22 r_5_4 ?_
  refine tz_iconst (pc := 87) dX0_takeFrom_87 ?_
  refine tz_aload_n (pc := 88) dX0_takeFrom_88 rfl rfl ?_
  refine tz_fR (pc := 89) dX0_takeFrom_89 fl_X0_22 r_63_4 ?_
  refine tz_iconst (pc := 92) dX0_takeFrom_92 ?_
  refine tz_aload_n (pc := 93) dX0_takeFrom_93 rfl rfl ?_
  refine tz_fR (pc := 94) dX0_takeFrom_94 fl_X0_22 r_63_4 ?_
  refine tz_aN (pc := 97) (lz := 4) dX0_takeFrom_97 a_120 rfl ?_
  refine tz_cp (pc := 98) (sp := 0) (dp := 0) (ln := 4) dX0_takeFrom_98 ml_X0_48 a_62 a_120 rfl rfl (by decide) (Nat.le_of_ble_eq_true rfl) (by decide +kernel) ?_
  exact tz_vret (pc := 101) dX0_takeFrom_101 rfl (Nat.le_of_ble_eq_true rfl) (Nat.le_of_ble_eq_true rfl) ⟨Nat.le_refl _, Nat.le_add_right _ _⟩ ⟨rfl, (zOf.cp rfl (zOf.up rfl (zOf.up rfl ((zOf.mono f_19 (fun c hc => by simp [zbut] at hc ⊢; omega)).tr ((zOf.mono f_8 (fun c hc => by simp [zbut] at hc ⊢; omega)).tr zOf.rf)))))⟩

set_option maxHeartbeats 4000000 in
set_option maxRecDepth 100000 in
theorem zc1_next {l : Launch} {G : tb_G} (hl : l.stackTraces = false) (n : Nat) (J : zJ)    (h0 : J 163 7 = 0) (h1 : J 163 4 = 0) : tz_Ok l G M_X5_next 1 0 0 [.ref 163] n J (zqv (fun J' => zup (zup (zup J 163 6 0) 163 5 0) 163 7 0 = J')) zN := by
  refine tz_Ok.of hl (by decide +kernel) rfl (tb_c1 rfl) (Nat.le_of_ble_eq_true rfl) ?_
  show tz_At l G M_X5_next (tb_rm 1 0 0) none (tb_ZM G 0 0 (zQ n 0 (zqv (fun J' => zup (zup (zup J 163 6 0) 163 5 0) 163 7 0 = J'))) (zX n 0 zN)) 0 0 n J 0 [some (.ref 163)] []
  refine tz_aload_n (pc := 0) dX5_next_0 rfl rfl ?_
  refine tz_aload_n (pc := 1) dX5_next_1 rfl rfl ?_
  refine tz_fI (pc := 2) (kz := 7) (v := 0) dX5_next_2 fl_X5_21 i_163_7 rfl h0 (fun _ => ?_)
  refine tz_pI (pc := 5) (kz := 6) dX5_next_5 fl_X5_18 i_163_6 rfl rfl (by decide) ?_
  refine tz_aload_n (pc := 8) dX5_next_8 rfl rfl ?_
  refine tz_fI (pc := 9) (kz := 6) (v := 0) dX5_next_9 fl_X5_18 i_163_6 rfl rfl (fun _ => ?_)
  refine tz_aload_n (pc := 12) dX5_next_12 rfl rfl ?_
  refine tz_fI (pc := 13) (kz := 4) (v := 0) dX5_next_13 fl_X5_9 i_163_4 rfl h1 (fun _ => ?_)
  refine tz_icmp_geT (pc := 16) (tgt := 60) (by decide) dX5_next_16 (by decide) (by decide) (by decide) ?_
  refine tz_aload_n (pc := 60) dX5_next_60 rfl rfl ?_
  refine tz_aload_n (pc := 61) dX5_next_61 rfl rfl ?_
  refine tz_fI (pc := 62) (kz := 6) (v := 0) dX5_next_62 fl_X5_18 i_163_6 rfl rfl (fun _ => ?_)
  refine tz_aload_n (pc := 65) dX5_next_65 rfl rfl ?_
  refine tz_fI (pc := 66) (kz := 4) (v := 0) dX5_next_66 fl_X5_9 i_163_4 rfl h1 (fun _ => ?_)
  refine tz_icmp_geT (pc := 69) (tgt := 87) (by decide) dX5_next_69 (by decide) (by decide) (by decide) ?_
  refine tz_iconst (pc := 87) dX5_next_87 ?_
  refine tz_pI (pc := 88) (kz := 5) dX5_next_88 fl_X5_15 i_163_5 rfl rfl (by decide) ?_
  refine tz_aload_n (pc := 91) dX5_next_91 rfl rfl ?_
  refine tz_aload_n (pc := 92) dX5_next_92 rfl rfl ?_
  refine tz_fI (pc := 93) (kz := 6) (v := 0) dX5_next_93 fl_X5_18 i_163_6 rfl rfl (fun _ => ?_)
  refine tz_iconst (pc := 96) dX5_next_96 ?_
  refine tz_iadd (pc := 97) (v := 1) dX5_next_97 (by decide) ?_
  refine tz_aload_n (pc := 98) dX5_next_98 rfl rfl ?_
  refine tz_fI (pc := 99) (kz := 4) (v := 0) dX5_next_99 fl_X5_9 i_163_4 rfl h1 (fun _ => ?_)
  refine tz_mn (pc := 102) (v := 0) dX5_next_102 ml_X5_59 (Nat.le_of_ble_eq_true rfl) (Nat.le_of_ble_eq_true rfl) (Nat.le_of_ble_eq_true rfl) (Nat.le_of_ble_eq_true rfl) (by decide) (by decide) (by decide) ?_
  refine tz_pI (pc := 105) (kz := 7) dX5_next_105 fl_X5_21 i_163_7 rfl rfl (by decide) ?_
  refine tz_aload_n (pc := 108) dX5_next_108 rfl rfl ?_
  refine tz_fI (pc := 109) (kz := 5) (v := 0) dX5_next_109 fl_X5_15 i_163_5 rfl rfl (fun _ => ?_)
  refine tz_iconst (pc := 112) dX5_next_112 ?_
  refine tz_icmp_eqF (pc := 113) (tgt := 124) (by decide) dX5_next_113 (by decide) (by decide) (by decide) ?_
  refine tz_aload_n (pc := 116) dX5_next_116 rfl rfl ?_
  refine tz_fI (pc := 117) (kz := 5) (v := 0) dX5_next_117 fl_X5_15 i_163_5 rfl rfl (fun _ => ?_)
  refine tz_iconst (pc := 120) dX5_next_120 ?_
  refine tz_icmp_neT (pc := 121) (tgt := 167) (by decide) dX5_next_121 (by decide) (by decide) (by decide) ?_
  exact tz_vret (pc := 167) dX5_next_167 rfl (Nat.le_of_ble_eq_true rfl) (Nat.le_of_ble_eq_true rfl) ⟨Nat.le_refl _, Nat.le_add_right _ _⟩ ⟨rfl, rfl⟩

set_option maxHeartbeats 4000000 in
set_option maxRecDepth 100000 in
theorem zc1_read {l : Launch} {G : tb_G} (hl : l.stackTraces = false) (n : Nat) (J : zJ) (b : Int) (hr_b : -2147483648 ≤ b ∧ b < 2147483648)  (hb0 : b = 0) : tz_Ok l G M_X5_readBank 2 0 0 [.ref 163, zi b] n J (zqi (fun z J' => 0 = z ∧ zOf (zbut [163]) J' J)) zN := by
  refine tz_Ok.of hl (by decide +kernel) rfl (tb_c1 rfl) (Nat.le_of_ble_eq_true rfl) ?_
  show tz_At l G M_X5_readBank (tb_rm 2 0 0) none (tb_ZM G 0 0 (zQ n 0 (zqi (fun z J' => 0 = z ∧ zOf (zbut [163]) J' J))) (zX n 0 zN)) 0 0 n J 0 [some (.ref 163), some (zi b), none] []
  refine tz_aload_n (pc := 0) dX5_readBank_0 rfl rfl ?_
  refine tz_iload_n (pc := 1) dX5_readBank_1 rfl rfl ?_
  refine tz_aload_n (pc := 2) dX5_readBank_2 rfl rfl ?_
  refine tz_fR (pc := 3) dX5_readBank_3 fl_X5_34 r_163_0 ?_
  refine tz_aN (pc := 6) (lz := 700) dX5_readBank_6 a_162 rfl ?_
  refine tz_mn (pc := 7) (v := 0) dX5_readBank_7 ml_X5_59 (Nat.le_of_ble_eq_true rfl) (Nat.le_of_ble_eq_true rfl) (Nat.le_of_ble_eq_true rfl) (Nat.le_of_ble_eq_true rfl) (by omega) (by decide) (by split <;> omega) ?_
  refine tz_pI (pc := 10) (kz := 4) dX5_readBank_10 fl_X5_9 i_163_4 rfl rfl (by decide) ?_
  refine tz_aload_n (pc := 13) dX5_readBank_13 rfl rfl ?_
  refine tz_iconst (pc := 14) dX5_readBank_14 ?_
  refine tz_pI (pc := 15) (kz := 7) dX5_readBank_15 fl_X5_21 i_163_7 rfl rfl (by decide) ?_
  refine tz_aload_n (pc := 18) dX5_readBank_18 rfl rfl ?_
  refine tz_iconst (pc := 19) dX5_readBank_19 ?_
  refine tz_pI (pc := 20) (kz := 8) dX5_readBank_20 fl_X5_24 i_163_8 rfl rfl (by decide) ?_
  refine tz_aload_n (pc := 23) dX5_readBank_23 rfl rfl ?_
  refine tz_iconst (pc := 24) dX5_readBank_24 ?_
  refine tz_pI (pc := 25) (kz := 9) dX5_readBank_25 fl_X5_27 i_163_9 rfl rfl (by decide) ?_
  refine tz_aload_n (pc := 28) dX5_readBank_28 rfl rfl ?_
  refine tz_iconst (pc := 29) dX5_readBank_29 ?_
  refine tz_pZ (pc := 30) (kz := 10) dX5_readBank_30 fl_X5_30 i_163_10 rfl rfl (Or.inl rfl) ?_
  refine tz_aload_n (pc := 33) dX5_readBank_33 rfl rfl ?_
  refine tz_cV (pc := 34) (zc1_next hl n _ rfl rfl) vl_X5_65 dX5_readBank_34 o_163 rfl rfl (Nat.le_of_ble_eq_true rfl) ⟨(Nat.le_of_ble_eq_true rfl), (Nat.le_of_ble_eq_true rfl)⟩ rfl rfl (Nat.le_of_ble_eq_true rfl) (Nat.le_of_ble_eq_true rfl) (fun r9 J_34 hq9 => ?_)
  obtain ⟨rfl, rfl⟩ := hq9
  refine tz_iconst (pc := 37) dX5_readBank_37 ?_
  refine tz_istore_n (pc := 38) (L2 := [_, _, _]) dX5_readBank_38 rfl (by decide) rfl ?_
  refine tz_iload_n (pc := 39) dX5_readBank_39 rfl rfl ?_
  refine tz_sipush (pc := 40) dX5_readBank_40 (by decide) ?_
  refine tz_icmp_geF (pc := 43) (tgt := 152) (by decide) dX5_readBank_43 (by decide) (by decide) (by decide) ?_
  refine tz_aload_n (pc := 46) dX5_readBank_46 rfl rfl ?_
  refine tz_fI (pc := 47) (kz := 5) (v := 0) dX5_readBank_47 fl_X5_15 i_163_5 rfl rfl (fun _ => ?_)
  refine tz_if_eqT (pc := 50) (tgt := 152) (by decide) dX5_readBank_50 (by decide) (by decide) ?_
  refine tz_aload_n (pc := 152) dX5_readBank_152 rfl rfl ?_
  refine tz_fI (pc := 153) (kz := 8) (v := 0) dX5_readBank_153 fl_X5_24 i_163_8 rfl rfl (fun _ => ?_)
  exact tz_iret (pc := 156) (z := 0) dX5_readBank_156 rfl (Nat.le_of_ble_eq_true rfl) (Nat.le_of_ble_eq_true rfl) ⟨Nat.le_refl _, Nat.le_add_right _ _⟩ ⟨_, rfl, (by decide), ⟨rfl, (zOf.up rfl (zOf.up rfl (zOf.up rfl (zOf.up rfl (zOf.up rfl (zOf.up rfl (zOf.up rfl (zOf.up rfl zOf.rf))))))))⟩⟩

set_option maxHeartbeats 4000000 in
set_option maxRecDepth 100000 in
theorem zc_syEmpty {l : Launch} {G : tb_G} (hl : l.stackTraces = false) (n : Nat) (J : zJ)     : tz_Ok l G M_X8_empty 0 0 0 [.ref 1] n J (zqv (fun J' => zOf (zbut [1]) J' J)) zN := by
  refine tz_Ok.of hl (by decide +kernel) rfl (tb_c1 rfl) (Nat.le_of_ble_eq_true rfl) ?_
  show tz_At l G M_X8_empty (tb_rm 0 0 0) none (tb_ZM G 0 0 (zQ n 0 (zqv (fun J' => zOf (zbut [1]) J' J))) (zX n 0 zN)) 0 0 n J 0 [some (.ref 1)] []
  refine tz_aload_n (pc := 0) dX8_empty_0 rfl rfl ?_
  refine tz_iconst (pc := 1) dX8_empty_1 ?_
  refine tz_pI (pc := 2) (kz := 3) dX8_empty_2 fl_X8_21 i_1_3 rfl rfl (by decide) ?_
  exact tz_vret (pc := 5) dX8_empty_5 rfl (Nat.le_of_ble_eq_true rfl) (Nat.le_of_ble_eq_true rfl) ⟨Nat.le_refl _, Nat.le_add_right _ _⟩ ⟨rfl, (zOf.up rfl zOf.rf)⟩

set_option maxHeartbeats 4000000 in
set_option maxRecDepth 100000 in
theorem zc_teEmpty {l : Launch} {G : tb_G} (hl : l.stackTraces = false) (n : Nat) (J : zJ)     : tz_Ok l G M_X9_empty 1 0 0 [.ref 6] n J (zqv (fun J' => zOf (zbut [6, 16]) J' J)) zN := by
  refine tz_Ok.of hl (by decide +kernel) rfl (tb_c1 rfl) (Nat.le_of_ble_eq_true rfl) ?_
  show tz_At l G M_X9_empty (tb_rm 1 0 0) none (tb_ZM G 0 0 (zQ n 0 (zqv (fun J' => zOf (zbut [6, 16]) J' J))) (zX n 0 zN)) 0 0 n J 0 [some (.ref 6)] []
  refine tz_aload_n (pc := 0) dX9_empty_0 rfl rfl ?_
  refine tz_iconst (pc := 1) dX9_empty_1 ?_
  refine tz_pI (pc := 2) (kz := 12) dX9_empty_2 fl_X9_45 i_6_12 rfl rfl (by decide) ?_
  refine tz_aload_n (pc := 5) dX9_empty_5 rfl rfl ?_
  refine tz_fR (pc := 6) dX9_empty_6 fl_X9_39 r_6_10 ?_
  refine tz_iconst (pc := 9) dX9_empty_9 ?_
  refine tz_cS (pc := 10) (zJ_fill hl n _ 16 _ 256 (-1) (by decide) a_16 rfl) sl_X9_53 dX9_empty_10 rfl rfl (Nat.le_of_ble_eq_true rfl) ⟨(Nat.le_of_ble_eq_true rfl), (Nat.le_of_ble_eq_true rfl)⟩ rfl rfl (Nat.le_of_ble_eq_true rfl) (Nat.le_of_ble_eq_true rfl) (fun r9 J_10 hq9 => ?_)
  obtain ⟨rfl, rfl⟩ := hq9
  exact tz_vret (pc := 13) dX9_empty_13 rfl (Nat.le_of_ble_eq_true rfl) (Nat.le_of_ble_eq_true rfl) ⟨Nat.le_refl _, Nat.le_add_right _ _⟩ ⟨rfl, (zOf.fl rfl (zOf.up rfl zOf.rf))⟩

set_option maxHeartbeats 4000000 in
set_option maxRecDepth 100000 in
theorem zc_fillAnew {l : Launch} {G : tb_G} (hl : l.stackTraces = false) (n : Nat) (J : zJ)     : tz_Ok l G M_X1_fillAnew 1 0 0 [.ref 19] n J (zqv (fun J' => zOf (zbut [19]) J' J)) zN := by
  refine tz_Ok.of hl (by decide +kernel) rfl (tb_c1 rfl) (Nat.le_of_ble_eq_true rfl) ?_
  show tz_At l G M_X1_fillAnew (tb_rm 1 0 0) none (tb_ZM G 0 0 (zQ n 0 (zqv (fun J' => zOf (zbut [19]) J' J))) (zX n 0 zN)) 0 0 n J 0 [some (.ref 19), none] []
  refine tz_aload_n (pc := 0) dX1_fillAnew_0 rfl rfl ?_
  refine tz_iconst (pc := 1) dX1_fillAnew_1 ?_
  refine tz_cS (pc := 2) (zJ_fill hl n _ 19 _ 61 0 (by decide) a_19 rfl) sl_X1_19 dX1_fillAnew_2 rfl rfl (Nat.le_of_ble_eq_true rfl) ⟨(Nat.le_of_ble_eq_true rfl), (Nat.le_of_ble_eq_true rfl)⟩ rfl rfl (Nat.le_of_ble_eq_true rfl) (Nat.le_of_ble_eq_true rfl) (fun r9 J_2 hq9 => ?_)
  obtain ⟨rfl, rfl⟩ := hq9
  refine tz_iconst (pc := 5) dX1_fillAnew_5 ?_
  refine tz_istore_n (pc := 6) (L2 := [_, _]) dX1_fillAnew_6 rfl (by decide) rfl ?_
  refine tz_iload_n (pc := 7) dX1_fillAnew_7 rfl rfl ?_
  refine tz_bipush (pc := 8) dX1_fillAnew_8 (by decide) ?_
  refine tz_icmp_geF (pc := 10) (tgt := 26) (by decide) dX1_fillAnew_10 (by decide) (by decide) (by decide) ?_
  refine tz_aload_n (pc := 13) dX1_fillAnew_13 rfl rfl ?_
  refine tz_bipush (pc := 14) dX1_fillAnew_14 (by decide) ?_
  refine tz_iload_n (pc := 16) dX1_fillAnew_16 rfl rfl ?_
  refine tz_iadd (pc := 17) (v := 7) dX1_fillAnew_17 (by decide) ?_
  refine tz_iconst (pc := 18) dX1_fillAnew_18 ?_
  refine tz_aS (pc := 19) (z := 7) dX1_fillAnew_19 a_19 rfl (by decide) (by decide) ?_
  refine tz_iinc (pc := 20) (z := 1) (L2 := [_, _]) dX1_fillAnew_20 rfl (by decide) rfl ?_
  refine tz_goto (pc := 23) (tgt := 7) dX1_fillAnew_23 (by decide) ?_
  refine tz_iload_n (pc := 7) dX1_fillAnew_7 rfl rfl ?_
  refine tz_bipush (pc := 8) dX1_fillAnew_8 (by decide) ?_
  refine tz_icmp_geF (pc := 10) (tgt := 26) (by decide) dX1_fillAnew_10 (by decide) (by decide) (by decide) ?_
  refine tz_aload_n (pc := 13) dX1_fillAnew_13 rfl rfl ?_
  refine tz_bipush (pc := 14) dX1_fillAnew_14 (by decide) ?_
  refine tz_iload_n (pc := 16) dX1_fillAnew_16 rfl rfl ?_
  refine tz_iadd (pc := 17) (v := 8) dX1_fillAnew_17 (by decide) ?_
  refine tz_iconst (pc := 18) dX1_fillAnew_18 ?_
  refine tz_aS (pc := 19) (z := 8) dX1_fillAnew_19 a_19 rfl (by decide) (by decide) ?_
  refine tz_iinc (pc := 20) (z := 2) (L2 := [_, _]) dX1_fillAnew_20 rfl (by decide) rfl ?_
  refine tz_goto (pc := 23) (tgt := 7) dX1_fillAnew_23 (by decide) ?_
  refine tz_iload_n (pc := 7) dX1_fillAnew_7 rfl rfl ?_
  refine tz_bipush (pc := 8) dX1_fillAnew_8 (by decide) ?_
  refine tz_icmp_geF (pc := 10) (tgt := 26) (by decide) dX1_fillAnew_10 (by decide) (by decide) (by decide) ?_
  refine tz_aload_n (pc := 13) dX1_fillAnew_13 rfl rfl ?_
  refine tz_bipush (pc := 14) dX1_fillAnew_14 (by decide) ?_
  refine tz_iload_n (pc := 16) dX1_fillAnew_16 rfl rfl ?_
  refine tz_iadd (pc := 17) (v := 9) dX1_fillAnew_17 (by decide) ?_
  refine tz_iconst (pc := 18) dX1_fillAnew_18 ?_
  refine tz_aS (pc := 19) (z := 9) dX1_fillAnew_19 a_19 rfl (by decide) (by decide) ?_
  refine tz_iinc (pc := 20) (z := 3) (L2 := [_, _]) dX1_fillAnew_20 rfl (by decide) rfl ?_
  refine tz_goto (pc := 23) (tgt := 7) dX1_fillAnew_23 (by decide) ?_
  refine tz_iload_n (pc := 7) dX1_fillAnew_7 rfl rfl ?_
  refine tz_bipush (pc := 8) dX1_fillAnew_8 (by decide) ?_
  refine tz_icmp_geF (pc := 10) (tgt := 26) (by decide) dX1_fillAnew_10 (by decide) (by decide) (by decide) ?_
  refine tz_aload_n (pc := 13) dX1_fillAnew_13 rfl rfl ?_
  refine tz_bipush (pc := 14) dX1_fillAnew_14 (by decide) ?_
  refine tz_iload_n (pc := 16) dX1_fillAnew_16 rfl rfl ?_
  refine tz_iadd (pc := 17) (v := 10) dX1_fillAnew_17 (by decide) ?_
  refine tz_iconst (pc := 18) dX1_fillAnew_18 ?_
  refine tz_aS (pc := 19) (z := 10) dX1_fillAnew_19 a_19 rfl (by decide) (by decide) ?_
  refine tz_iinc (pc := 20) (z := 4) (L2 := [_, _]) dX1_fillAnew_20 rfl (by decide) rfl ?_
  refine tz_goto (pc := 23) (tgt := 7) dX1_fillAnew_23 (by decide) ?_
  refine tz_iload_n (pc := 7) dX1_fillAnew_7 rfl rfl ?_
  refine tz_bipush (pc := 8) dX1_fillAnew_8 (by decide) ?_
  refine tz_icmp_geF (pc := 10) (tgt := 26) (by decide) dX1_fillAnew_10 (by decide) (by decide) (by decide) ?_
  refine tz_aload_n (pc := 13) dX1_fillAnew_13 rfl rfl ?_
  refine tz_bipush (pc := 14) dX1_fillAnew_14 (by decide) ?_
  refine tz_iload_n (pc := 16) dX1_fillAnew_16 rfl rfl ?_
  refine tz_iadd (pc := 17) (v := 11) dX1_fillAnew_17 (by decide) ?_
  refine tz_iconst (pc := 18) dX1_fillAnew_18 ?_
  refine tz_aS (pc := 19) (z := 11) dX1_fillAnew_19 a_19 rfl (by decide) (by decide) ?_
  refine tz_iinc (pc := 20) (z := 5) (L2 := [_, _]) dX1_fillAnew_20 rfl (by decide) rfl ?_
  refine tz_goto (pc := 23) (tgt := 7) dX1_fillAnew_23 (by decide) ?_
  refine tz_iload_n (pc := 7) dX1_fillAnew_7 rfl rfl ?_
  refine tz_bipush (pc := 8) dX1_fillAnew_8 (by decide) ?_
  refine tz_icmp_geF (pc := 10) (tgt := 26) (by decide) dX1_fillAnew_10 (by decide) (by decide) (by decide) ?_
  refine tz_aload_n (pc := 13) dX1_fillAnew_13 rfl rfl ?_
  refine tz_bipush (pc := 14) dX1_fillAnew_14 (by decide) ?_
  refine tz_iload_n (pc := 16) dX1_fillAnew_16 rfl rfl ?_
  refine tz_iadd (pc := 17) (v := 12) dX1_fillAnew_17 (by decide) ?_
  refine tz_iconst (pc := 18) dX1_fillAnew_18 ?_
  refine tz_aS (pc := 19) (z := 12) dX1_fillAnew_19 a_19 rfl (by decide) (by decide) ?_
  refine tz_iinc (pc := 20) (z := 6) (L2 := [_, _]) dX1_fillAnew_20 rfl (by decide) rfl ?_
  refine tz_goto (pc := 23) (tgt := 7) dX1_fillAnew_23 (by decide) ?_
  refine tz_iload_n (pc := 7) dX1_fillAnew_7 rfl rfl ?_
  refine tz_bipush (pc := 8) dX1_fillAnew_8 (by decide) ?_
  refine tz_icmp_geF (pc := 10) (tgt := 26) (by decide) dX1_fillAnew_10 (by decide) (by decide) (by decide) ?_
  refine tz_aload_n (pc := 13) dX1_fillAnew_13 rfl rfl ?_
  refine tz_bipush (pc := 14) dX1_fillAnew_14 (by decide) ?_
  refine tz_iload_n (pc := 16) dX1_fillAnew_16 rfl rfl ?_
  refine tz_iadd (pc := 17) (v := 13) dX1_fillAnew_17 (by decide) ?_
  refine tz_iconst (pc := 18) dX1_fillAnew_18 ?_
  refine tz_aS (pc := 19) (z := 13) dX1_fillAnew_19 a_19 rfl (by decide) (by decide) ?_
  refine tz_iinc (pc := 20) (z := 7) (L2 := [_, _]) dX1_fillAnew_20 rfl (by decide) rfl ?_
  refine tz_goto (pc := 23) (tgt := 7) dX1_fillAnew_23 (by decide) ?_
  refine tz_iload_n (pc := 7) dX1_fillAnew_7 rfl rfl ?_
  refine tz_bipush (pc := 8) dX1_fillAnew_8 (by decide) ?_
  refine tz_icmp_geF (pc := 10) (tgt := 26) (by decide) dX1_fillAnew_10 (by decide) (by decide) (by decide) ?_
  refine tz_aload_n (pc := 13) dX1_fillAnew_13 rfl rfl ?_
  refine tz_bipush (pc := 14) dX1_fillAnew_14 (by decide) ?_
  refine tz_iload_n (pc := 16) dX1_fillAnew_16 rfl rfl ?_
  refine tz_iadd (pc := 17) (v := 14) dX1_fillAnew_17 (by decide) ?_
  refine tz_iconst (pc := 18) dX1_fillAnew_18 ?_
  refine tz_aS (pc := 19) (z := 14) dX1_fillAnew_19 a_19 rfl (by decide) (by decide) ?_
  refine tz_iinc (pc := 20) (z := 8) (L2 := [_, _]) dX1_fillAnew_20 rfl (by decide) rfl ?_
  refine tz_goto (pc := 23) (tgt := 7) dX1_fillAnew_23 (by decide) ?_
  refine tz_iload_n (pc := 7) dX1_fillAnew_7 rfl rfl ?_
  refine tz_bipush (pc := 8) dX1_fillAnew_8 (by decide) ?_
  refine tz_icmp_geT (pc := 10) (tgt := 26) (by decide) dX1_fillAnew_10 (by decide) (by decide) (by decide) ?_
  refine tz_aload_n (pc := 26) dX1_fillAnew_26 rfl rfl ?_
  refine tz_iconst (pc := 27) dX1_fillAnew_27 ?_
  refine tz_iconst (pc := 28) dX1_fillAnew_28 ?_
  refine tz_aS (pc := 29) (z := 1) dX1_fillAnew_29 a_19 rfl (by decide) (by decide) ?_
  exact tz_vret (pc := 30) dX1_fillAnew_30 rfl (Nat.le_of_ble_eq_true rfl) (Nat.le_of_ble_eq_true rfl) ⟨Nat.le_refl _, Nat.le_add_right _ _⟩ ⟨rfl, (zOf.up rfl (zOf.up rfl (zOf.up rfl (zOf.up rfl (zOf.up rfl (zOf.up rfl (zOf.up rfl (zOf.up rfl (zOf.up rfl (zOf.fl rfl zOf.rf))))))))))⟩

set_option maxHeartbeats 4000000 in
set_option maxRecDepth 100000 in
theorem zc_leEmpty {l : Launch} {G : tb_G} (hl : l.stackTraces = false) (n : Nat) (J : zJ)     : tz_Ok l G M_X1_empty 2 0 0 [.ref 18] n J (zqv (fun J' => zOf (zbut [19]) J' J)) zN := by
  refine tz_Ok.of hl (by decide +kernel) rfl (tb_c1 rfl) (Nat.le_of_ble_eq_true rfl) ?_
  show tz_At l G M_X1_empty (tb_rm 2 0 0) none (tb_ZM G 0 0 (zQ n 0 (zqv (fun J' => zOf (zbut [19]) J' J))) (zX n 0 zN)) 0 0 n J 0 [some (.ref 18)] []
  refine tz_aload_n (pc := 0) dX1_empty_0 rfl rfl ?_
  refine tz_fR (pc := 1) dX1_empty_1 fl_X1_11 r_18_0 ?_
  refine tz_cS (pc := 4) (zc_fillAnew hl n _) sl_X1_15 dX1_empty_4 rfl rfl (Nat.le_of_ble_eq_true rfl) ⟨(Nat.le_of_ble_eq_true rfl), (Nat.le_of_ble_eq_true rfl)⟩ rfl rfl (Nat.le_of_ble_eq_true rfl) (Nat.le_of_ble_eq_true rfl) (fun r9 J_4 hq9 => ?_)
  obtain ⟨rfl, f_4⟩ := hq9
  exact tz_vret (pc := 7) dX1_empty_7 rfl (Nat.le_of_ble_eq_true rfl) (Nat.le_of_ble_eq_true rfl) ⟨Nat.le_refl _, Nat.le_add_right _ _⟩ ⟨rfl, ((zOf.mono f_4 (fun c hc => by simp [zbut] at hc ⊢; omega)).tr zOf.rf)⟩

set_option maxHeartbeats 4000000 in
set_option maxRecDepth 100000 in
theorem zc1_setAside {l : Launch} {G : tb_G} (hl : l.stackTraces = false) (n : Nat) (J : zJ)    (h0 : J 6 12 = 0) : tz_Ok l G M_X11_setAside 2 0 0 [.ref 0] n J (zqv (fun J' => zOf (zbut [121, 122, 123, 124, 125, 126, 127, 128, 129, 130, 131, 132, 133, 134, 135, 136, 137, 138]) J' J)) zN := by
  refine tz_Ok.of hl (by decide +kernel) rfl (tb_c1 rfl) (Nat.le_of_ble_eq_true rfl) ?_
  show tz_At l G M_X11_setAside (tb_rm 2 0 0) none (tb_ZM G 0 0 (zQ n 0 (zqv (fun J' => zOf (zbut [121, 122, 123, 124, 125, 126, 127, 128, 129, 130, 131, 132, 133, 134, 135, 136, 137, 138]) J' J))) (zX n 0 zN)) 0 0 n J 0 [some (.ref 0)] []
  refine tz_aload_n (pc := 0) dX11_setAside_0 rfl rfl ?_
  refine tz_fR (pc := 1) dX11_setAside_1 fl_X11_36 r_0_3 ?_
  refine tz_aload_n (pc := 4) dX11_setAside_4 rfl rfl ?_
  refine tz_fR (pc := 5) dX11_setAside_5 fl_X11_10 r_0_0 ?_
  refine tz_cV (pc := 8) (zc_syTake hl n _) vl_X11_151 dX11_setAside_8 o_121 rfl rfl (Nat.le_of_ble_eq_true rfl) ⟨(Nat.le_of_ble_eq_true rfl), (Nat.le_of_ble_eq_true rfl)⟩ rfl rfl (Nat.le_of_ble_eq_true rfl) (Nat.le_of_ble_eq_true rfl) (fun r9 J_8 hq9 => ?_)
  obtain ⟨rfl, f_8⟩ := hq9
  refine tz_aload_n (pc := 11) dX11_setAside_11 rfl rfl ?_
  refine tz_fR (pc := 12) dX11_setAside_12 fl_X11_39 r_0_4 ?_
  refine tz_aload_n (pc := 15) dX11_setAside_15 rfl rfl ?_
  refine tz_fR (pc := 16) dX11_setAside_16 fl_X11_29 r_0_1 ?_
  refine tz_fR (pc := 19) dX11_setAside_19 fl_X11_49 r_5_0 ?_
  refine tz_cV (pc := 22) (zc1_teTake125 hl n _ (Eq.trans (congrFun (f_8 6 rfl) 12) h0)) vl_X11_154 dX11_setAside_22 o_125 rfl rfl (Nat.le_of_ble_eq_true rfl) ⟨(Nat.le_of_ble_eq_true rfl), (Nat.le_of_ble_eq_true rfl)⟩ rfl rfl (Nat.le_of_ble_eq_true rfl) (Nat.le_of_ble_eq_true rfl) (fun r9 J_22 hq9 => ?_)
  obtain ⟨rfl, f_22⟩ := hq9
  refine tz_aload_n (pc := 25) dX11_setAside_25 rfl rfl ?_
  refine tz_fR (pc := 26) dX11_setAside_26 fl_X11_43 r_0_5 ?_
  refine tz_aload_n (pc := 29) dX11_setAside_29 rfl rfl ?_
  refine tz_fR (pc := 30) dX11_setAside_30 fl_X11_29 r_0_1 ?_
  refine tz_fR (pc := 33) dX11_setAside_33 fl_X11_156 r_5_1 ?_
  refine tz_cV (pc := 36) (zc_leTake137 hl n _) vl_X11_159 dX11_setAside_36 o_137 rfl rfl (Nat.le_of_ble_eq_true rfl) ⟨(Nat.le_of_ble_eq_true rfl), (Nat.le_of_ble_eq_true rfl)⟩ rfl rfl (Nat.le_of_ble_eq_true rfl) (Nat.le_of_ble_eq_true rfl) (fun r9 J_36 hq9 => ?_)
  obtain ⟨rfl, f_36⟩ := hq9
  exact tz_vret (pc := 39) dX11_setAside_39 rfl (Nat.le_of_ble_eq_true rfl) (Nat.le_of_ble_eq_true rfl) ⟨Nat.le_refl _, Nat.le_add_right _ _⟩ ⟨rfl, ((zOf.mono f_36 (fun c hc => by simp [zbut] at hc ⊢; omega)).tr ((zOf.mono f_22 (fun c hc => by simp [zbut] at hc ⊢; omega)).tr ((zOf.mono f_8 (fun c hc => by simp [zbut] at hc ⊢; omega)).tr zOf.rf)))⟩

set_option maxHeartbeats 4000000 in
set_option maxRecDepth 100000 in
theorem zc_startAnew {l : Launch} {G : tb_G} (hl : l.stackTraces = false) (n : Nat) (J : zJ)     : tz_Ok l G M_X11_startAnew 3 0 0 [.ref 0] n J (zqv (fun J' => zOf (zbut [1, 6, 16, 19]) J' J)) zN := by
  refine tz_Ok.of hl (by decide +kernel) rfl (tb_c1 rfl) (Nat.le_of_ble_eq_true rfl) ?_
  show tz_At l G M_X11_startAnew (tb_rm 3 0 0) none (tb_ZM G 0 0 (zQ n 0 (zqv (fun J' => zOf (zbut [1, 6, 16, 19]) J' J))) (zX n 0 zN)) 0 0 n J 0 [some (.ref 0)] []
  refine tz_aload_n (pc := 0) dX11_startAnew_0 rfl rfl ?_
  refine tz_fR (pc := 1) dX11_startAnew_1 fl_X11_10 r_0_0 ?_
  refine tz_cV (pc := 4) (zc_syEmpty hl n _) vl_X11_162 dX11_startAnew_4 o_1 rfl rfl (Nat.le_of_ble_eq_true rfl) ⟨(Nat.le_of_ble_eq_true rfl), (Nat.le_of_ble_eq_true rfl)⟩ rfl rfl (Nat.le_of_ble_eq_true rfl) (Nat.le_of_ble_eq_true rfl) (fun r9 J_4 hq9 => ?_)
  obtain ⟨rfl, f_4⟩ := hq9
  refine tz_aload_n (pc := 7) dX11_startAnew_7 rfl rfl ?_
  refine tz_fR (pc := 8) dX11_startAnew_8 fl_X11_29 r_0_1 ?_
  refine tz_fR (pc := 11) dX11_startAnew_11 fl_X11_49 r_5_0 ?_
  refine tz_cV (pc := 14) (zc_teEmpty hl n _) vl_X11_165 dX11_startAnew_14 o_6 rfl rfl (Nat.le_of_ble_eq_true rfl) ⟨(Nat.le_of_ble_eq_true rfl), (Nat.le_of_ble_eq_true rfl)⟩ rfl rfl (Nat.le_of_ble_eq_true rfl) (Nat.le_of_ble_eq_true rfl) (fun r9 J_14 hq9 => ?_)
  obtain ⟨rfl, f_14⟩ := hq9
  refine tz_aload_n (pc := 17) dX11_startAnew_17 rfl rfl ?_
  refine tz_fR (pc := 18) dX11_startAnew_18 fl_X11_29 r_0_1 ?_
  refine tz_fR (pc := 21) dX11_startAnew_21 fl_X11_156 r_5_1 ?_
  refine tz_cV (pc := 24) (zc_leEmpty hl n _) vl_X11_166 dX11_startAnew_24 o_18 rfl rfl (Nat.le_of_ble_eq_true rfl) ⟨(Nat.le_of_ble_eq_true rfl), (Nat.le_of_ble_eq_true rfl)⟩ rfl rfl (Nat.le_of_ble_eq_true rfl) (Nat.le_of_ble_eq_true rfl) (fun r9 J_24 hq9 => ?_)
  obtain ⟨rfl, f_24⟩ := hq9
  exact tz_vret (pc := 27) dX11_startAnew_27 rfl (Nat.le_of_ble_eq_true rfl) (Nat.le_of_ble_eq_true rfl) ⟨Nat.le_refl _, Nat.le_add_right _ _⟩ ⟨rfl, ((zOf.mono f_24 (fun c hc => by simp [zbut] at hc ⊢; omega)).tr ((zOf.mono f_14 (fun c hc => by simp [zbut] at hc ⊢; omega)).tr ((zOf.mono f_4 (fun c hc => by simp [zbut] at hc ⊢; omega)).tr zOf.rf)))⟩

set_option maxHeartbeats 4000000 in
set_option maxRecDepth 100000 in
theorem zc_forget {l : Launch} {G : tb_G} (hl : l.stackTraces = false) (n : Nat) (J : zJ)     : tz_Ok l G M_X0_forgetActs 0 0 0 [.ref 5] n J (zqv (fun J' => zOf (zbut [5]) J' J)) zN := by
  refine tz_Ok.of hl (by decide +kernel) rfl (tb_c1 rfl) (Nat.le_of_ble_eq_true rfl) ?_
  show tz_At l G M_X0_forgetActs (tb_rm 0 0 0) none (tb_ZM G 0 0 (zQ n 0 (zqv (fun J' => zOf (zbut [5]) J' J))) (zX n 0 zN)) 0 0 n J 0 [some (.ref 5)] []
  refine tz_aload_n (pc := 0) dX0_forgetActs_0 rfl rfl ?_
  refine tz_iconst (pc := 1) dX0_forgetActs_1 ?_
  refine tz_pI (pc := 2) (kz := 6) dX0_forgetActs_2 fl_X0_29 i_5_6 rfl rfl (by decide) ?_
  refine tz_aload_n (pc := 5) dX0_forgetActs_5 rfl rfl ?_
  refine tz_iconst (pc := 6) dX0_forgetActs_6 ?_
  refine tz_pI (pc := 7) (kz := 5) dX0_forgetActs_7 fl_X0_25 i_5_5 rfl rfl (by decide) ?_
  exact tz_vret (pc := 10) dX0_forgetActs_10 rfl (Nat.le_of_ble_eq_true rfl) (Nat.le_of_ble_eq_true rfl) ⟨Nat.le_refl _, Nat.le_add_right _ _⟩ ⟨rfl, (zOf.up rfl (zOf.up rfl zOf.rf))⟩

set_option maxHeartbeats 4000000 in
set_option maxRecDepth 100000 in
theorem zc1_unlike {l : Launch} {G : tb_G} (hl : l.stackTraces = false) (n : Nat) (J : zJ)    (h0 : J 6 12 = 0) : tz_Ok l G M_X9_unlikeShapes 0 0 0 [.ref 6] n J (zqi (fun z J' => J = J' ∧ 0 = z)) zN := by
  refine tz_Ok.of hl (by decide +kernel) rfl (tb_c1 rfl) (Nat.le_of_ble_eq_true rfl) ?_
  show tz_At l G M_X9_unlikeShapes (tb_rm 0 0 0) none (tb_ZM G 0 0 (zQ n 0 (zqi (fun z J' => J = J' ∧ 0 = z))) (zX n 0 zN)) 0 0 n J 0 [some (.ref 6), none, none] []
  refine tz_iconst (pc := 0) dX9_unlikeShapes_0 ?_
  refine tz_istore_n (pc := 1) (L2 := [_, _, _]) dX9_unlikeShapes_1 rfl (by decide) rfl ?_
  refine tz_iconst (pc := 2) dX9_unlikeShapes_2 ?_
  refine tz_istore_n (pc := 3) (L2 := [_, _, _]) dX9_unlikeShapes_3 rfl (by decide) rfl ?_
  refine tz_iload_n (pc := 4) dX9_unlikeShapes_4 rfl rfl ?_
  refine tz_aload_n (pc := 5) dX9_unlikeShapes_5 rfl rfl ?_
  refine tz_fI (pc := 6) (kz := 12) (v := 0) dX9_unlikeShapes_6 fl_X9_45 i_6_12 rfl h0 (fun _ => ?_)
  refine tz_icmp_geT (pc := 9) (tgt := 36) (by decide) dX9_unlikeShapes_9 (by decide) (by decide) (by decide) ?_
  refine tz_iload_n (pc := 36) dX9_unlikeShapes_36 rfl rfl ?_
  exact tz_iret (pc := 37) (z := 0) dX9_unlikeShapes_37 rfl (Nat.le_of_ble_eq_true rfl) (Nat.le_of_ble_eq_true rfl) ⟨Nat.le_refl _, Nat.le_add_right _ _⟩ ⟨_, rfl, (by decide), ⟨rfl, rfl⟩⟩

set_option maxHeartbeats 4000000 in
set_option maxRecDepth 100000 in
theorem zc1_meetings {l : Launch} {G : tb_G} (hl : l.stackTraces = false) (n : Nat) (J : zJ)    (h0 : J 19 4 = 0) : tz_Ok l G M_X7_meetings 0 0 0 [.ref 155] n J (zqi (fun z J' => J = J' ∧ 0 = z)) zN := by
  refine tz_Ok.of hl (by decide +kernel) rfl (tb_c1 rfl) (Nat.le_of_ble_eq_true rfl) ?_
  show tz_At l G M_X7_meetings (tb_rm 0 0 0) none (tb_ZM G 0 0 (zQ n 0 (zqi (fun z J' => J = J' ∧ 0 = z))) (zX n 0 zN)) 0 0 n J 0 [some (.ref 155), none, none, none, none, none] []
  refine tz_iconst (pc := 0) dX7_meetings_0 ?_
  refine tz_istore_n (pc := 1) (L2 := [_, _, _, _, _, _]) dX7_meetings_1 rfl (by decide) rfl ?_
  refine tz_iconst (pc := 2) dX7_meetings_2 ?_
  refine tz_istore_n (pc := 3) (L2 := [_, _, _, _, _, _]) dX7_meetings_3 rfl (by decide) rfl ?_
  refine tz_iload_n (pc := 4) dX7_meetings_4 rfl rfl ?_
  refine tz_aload_n (pc := 5) dX7_meetings_5 rfl rfl ?_
  refine tz_fR (pc := 6) dX7_meetings_6 fl_X7_9 r_155_0 ?_
  refine tz_fR (pc := 9) dX7_meetings_9 fl_X7_56 r_5_1 ?_
  refine tz_fR (pc := 12) dX7_meetings_12 fl_X7_60 r_18_0 ?_
  refine tz_iconst (pc := 15) dX7_meetings_15 ?_
  refine tz_aL (pc := 16) (z := 4) (v := 0) dX7_meetings_16 a_19 rfl (by decide) h0 (fun _ => ?_)
  refine tz_icmp_geT (pc := 17) (tgt := 101) (by decide) dX7_meetings_17 (by decide) (by decide) (by decide) ?_
  refine tz_iload_n (pc := 101) dX7_meetings_101 rfl rfl ?_
  exact tz_iret (pc := 102) (z := 0) dX7_meetings_102 rfl (Nat.le_of_ble_eq_true rfl) (Nat.le_of_ble_eq_true rfl) ⟨Nat.le_refl _, Nat.le_add_right _ _⟩ ⟨_, rfl, (by decide), ⟨rfl, rfl⟩⟩

set_option maxHeartbeats 4000000 in
set_option maxRecDepth 100000 in
theorem zc1_firstMeeting {l : Launch} {G : tb_G} (hl : l.stackTraces = false) (n : Nat) (J : zJ)    (h0 : J 19 4 = 0) : tz_Ok l G M_X7_firstMeeting 0 0 0 [.ref 155] n J (zqi (fun z J' => J = J' ∧ (-1) = z)) zN := by
  refine tz_Ok.of hl (by decide +kernel) rfl (tb_c1 rfl) (Nat.le_of_ble_eq_true rfl) ?_
  show tz_At l G M_X7_firstMeeting (tb_rm 0 0 0) none (tb_ZM G 0 0 (zQ n 0 (zqi (fun z J' => J = J' ∧ (-1) = z))) (zX n 0 zN)) 0 0 n J 0 [some (.ref 155), none, none, none, none] []
  refine tz_iconst (pc := 0) dX7_firstMeeting_0 ?_
  refine tz_istore_n (pc := 1) (L2 := [_, _, _, _, _]) dX7_firstMeeting_1 rfl (by decide) rfl ?_
  refine tz_iload_n (pc := 2) dX7_firstMeeting_2 rfl rfl ?_
  refine tz_aload_n (pc := 3) dX7_firstMeeting_3 rfl rfl ?_
  refine tz_fR (pc := 4) dX7_firstMeeting_4 fl_X7_9 r_155_0 ?_
  refine tz_fR (pc := 7) dX7_firstMeeting_7 fl_X7_56 r_5_1 ?_
  refine tz_fR (pc := 10) dX7_firstMeeting_10 fl_X7_60 r_18_0 ?_
  refine tz_iconst (pc := 13) dX7_firstMeeting_13 ?_
  refine tz_aL (pc := 14) (z := 4) (v := 0) dX7_firstMeeting_14 a_19 rfl (by decide) h0 (fun _ => ?_)
  refine tz_icmp_geT (pc := 15) (tgt := 102) (by decide) dX7_firstMeeting_15 (by decide) (by decide) (by decide) ?_
  refine tz_iconst (pc := 102) dX7_firstMeeting_102 ?_
  exact tz_iret (pc := 103) (z := (-1)) dX7_firstMeeting_103 rfl (Nat.le_of_ble_eq_true rfl) (Nat.le_of_ble_eq_true rfl) ⟨Nat.le_refl _, Nat.le_add_right _ _⟩ ⟨_, rfl, (by decide), ⟨rfl, rfl⟩⟩

theorem zc1_TV0 {J : zJ} (h1 : J 1 3 = 0) (h2 : J 6 12 = 0) (h3 : J 16 0 = -1) : zTV 0 J := ⟨⟨h1, h2⟩, by decide, by rw [h3]; decide, fun t a b => by omega⟩
set_option maxHeartbeats 4000000 in
set_option maxRecDepth 100000 in
theorem c1_variable {l : Launch} {G : tb_G} (hl : l.stackTraces = false) (n : Nat) (I : tb_I) (F : tb_Fr I) (v : Int) (hr_v : -2147483648 ≤ v ∧ v < 2147483648)   : tz_Ok l G M_X11_variable 4 0 0 [.ref 0, zi v] n (zj I) (zqi (fun z J' => (z = if 0 ≤ v ∧ v ≤ 7 then 0 else (-1)) ∧ zOf (zfrom 164) J' (zj I))) zN := by
  refine tz_Ok.of hl (by decide +kernel) rfl (tb_c1 rfl) (Nat.le_of_ble_eq_true rfl) ?_
  show tz_At l G M_X11_variable (tb_rm 4 0 0) none (tb_ZM G 0 0 (zQ n 0 (zqi (fun z J' => (z = if 0 ≤ v ∧ v ≤ 7 then 0 else (-1)) ∧ zOf (zfrom 164) J' (zj I)))) (zX n 0 zN)) 0 0 n (zj I) 0 [some (.ref 0), some (zi v)] []
  refine tz_iload_n (pc := 0) dX11_variable_0 rfl rfl ?_
  refine tz_cS (pc := 1) (zc_isVarN hl n _ _ (by omega)) sl_X11_279 dX11_variable_1 rfl rfl (Nat.le_of_ble_eq_true rfl) ⟨(Nat.le_of_ble_eq_true rfl), (Nat.le_of_ble_eq_true rfl)⟩ rfl rfl (Nat.le_of_ble_eq_true rfl) (Nat.le_of_ble_eq_true rfl) (fun r9 J_1 hq9 => ?_)
  obtain ⟨z_1, rfl, hz_1, rfl, rfl⟩ := hq9
  by_cases hw_4 : 0 ≤ v ∧ v < 8
  · rw [show (if 0 ≤ v ∧ v < 8 then 1 else 0 : Int) = 1 from if_pos hw_4]
    refine tz_if_neT (pc := 4) (tgt := 14) (by decide) dX11_variable_4 (by decide) (by decide) ?_
    refine tz_aload_n (pc := 14) dX11_variable_14 rfl rfl ?_
    refine tz_fR (pc := 15) dX11_variable_15 fl_X11_29 r_0_1 ?_
    refine tz_cV (pc := 18) (zc_begin hl n _) vl_X11_287 dX11_variable_18 o_5 rfl rfl (Nat.le_of_ble_eq_true rfl) ⟨(Nat.le_of_ble_eq_true rfl), (Nat.le_of_ble_eq_true rfl)⟩ rfl rfl (Nat.le_of_ble_eq_true rfl) (Nat.le_of_ble_eq_true rfl) (fun r9 J_18 hq9 => ?_)
    obtain ⟨rfl, rfl⟩ := hq9
    refine tz_aload_n (pc := 21) dX11_variable_21 rfl rfl ?_
    refine tz_aload_n (pc := 22) dX11_variable_22 rfl rfl ?_
    refine tz_fR (pc := 23) dX11_variable_23 fl_X11_29 r_0_1 ?_
    refine tz_fR (pc := 26) dX11_variable_26 fl_X11_49 r_5_0 ?_
    refine tz_iload_n (pc := 29) dX11_variable_29 rfl rfl ?_
    refine tz_cV (pc := 30) (zc1_varTerm hl n _ _ (by omega) 0 (zc1_TV0 (zjv (z := 0) (F.at (by decide) z_1_3) rfl (by decide)) (zjv (z := 0) (F.at (by decide) z_6_12) rfl (by decide)) (zjv (z := (-1)) (F.at (by decide) z_16_0) rfl (by decide))) (by decide) (by omega)) vl_X11_290 dX11_variable_30 o_6 rfl rfl (Nat.le_of_ble_eq_true rfl) ⟨(Nat.le_of_ble_eq_true rfl), (Nat.le_of_ble_eq_true rfl)⟩ rfl rfl (Nat.le_of_ble_eq_true rfl) (Nat.le_of_ble_eq_true rfl) (fun r9 J_30 hq9 => ?_)
    obtain ⟨z_30, rfl, hz_30, m_30, hp1_30, hp2_30, f_30⟩ := hq9
    refine tz_cV (pc := 33) (zc1_settled hl n _ _ (by omega) (by omega) (Eq.trans (congrFun (f_30 5 rfl) 6) (zjv (z := 0) (F.at (by decide) z_5_6) rfl (by decide))) (Eq.trans (congrFun (f_30 5 rfl) 5) (zjv (z := 0) (F.at (by decide) z_5_5) rfl (by decide)))) vl_X11_293 dX11_variable_33 o_0 rfl rfl (Nat.le_of_ble_eq_true rfl) ⟨(Nat.le_of_ble_eq_true rfl), (Nat.le_of_ble_eq_true rfl)⟩ rfl rfl (Nat.le_of_ble_eq_true rfl) (Nat.le_of_ble_eq_true rfl) (fun r9 J_33 hq9 => ?_)
    obtain ⟨z_33, rfl, hz_33, rfl, f_33⟩ := hq9
    exact tz_iret (pc := 36) (z := z_30) dX11_variable_36 rfl (Nat.le_of_ble_eq_true rfl) (Nat.le_of_ble_eq_true rfl) ⟨Nat.le_refl _, Nat.le_add_right _ _⟩ ⟨_, rfl, (by omega), ⟨by split <;> omega, ((zOf.mono f_33 (zb164 (by decide))).tr ((zOf.mono f_30 (zb164 (by decide))).tr (zOf.cp rfl (zOf.up rfl zOf.rf))))⟩⟩
  · rw [show (if 0 ≤ v ∧ v < 8 then 1 else 0 : Int) = 0 from if_neg hw_4]
    refine tz_if_neF (pc := 4) (tgt := 14) (by decide) dX11_variable_4 (by decide) (by decide) ?_
    refine tz_aload_n (pc := 7) dX11_variable_7 rfl rfl ?_
    refine tz_iconst (pc := 8) dX11_variable_8 ?_
    refine tz_iconst (pc := 9) dX11_variable_9 ?_
    refine tz_cV (pc := 10) (zc_refused hl n _ _ _ (by decide) (by decide) (by decide)) vl_X11_284 dX11_variable_10 o_0 rfl rfl (Nat.le_of_ble_eq_true rfl) ⟨(Nat.le_of_ble_eq_true rfl), (Nat.le_of_ble_eq_true rfl)⟩ rfl rfl (Nat.le_of_ble_eq_true rfl) (Nat.le_of_ble_eq_true rfl) (fun r9 J_10 hq9 => ?_)
    obtain ⟨z_10, rfl, hz_10, rfl, f_10⟩ := hq9
    exact tz_iret (pc := 13) (z := (-1)) dX11_variable_13 rfl (Nat.le_of_ble_eq_true rfl) (Nat.le_of_ble_eq_true rfl) ⟨Nat.le_refl _, Nat.le_add_right _ _⟩ ⟨_, rfl, (by decide), ⟨by split <;> omega, ((zOf.mono f_10 (zb164 (by decide))).tr zOf.rf)⟩⟩

set_option maxHeartbeats 4000000 in
set_option maxRecDepth 100000 in
theorem c1_draw {l : Launch} {G : tb_G} (hl : l.stackTraces = false) (n : Nat) (I : tb_I) (F : tb_Fr I) (s : Int) (d : Int) (hr_s : -2147483648 ≤ s ∧ s < 2147483648) (hr_d : -2147483648 ≤ d ∧ d < 2147483648)   : tz_Ok l G M_X11_draw 6 0 0 [.ref 0, zi s, zi d] n (zj I) (zqi (fun z J' => (z = if 1 ≤ d ∧ d ≤ 4 then 0 else (-1)) ∧ zOf (zfrom 164) J' (zj I))) zN := by
  refine tz_Ok.of hl (by decide +kernel) rfl (tb_c1 rfl) (Nat.le_of_ble_eq_true rfl) ?_
  show tz_At l G M_X11_draw (tb_rm 6 0 0) none (tb_ZM G 0 0 (zQ n 0 (zqi (fun z J' => (z = if 1 ≤ d ∧ d ≤ 4 then 0 else (-1)) ∧ zOf (zfrom 164) J' (zj I)))) (zX n 0 zN)) 0 0 n (zj I) 0 [some (.ref 0), some (zi s), some (zi d)] []
  refine tz_iload_n (pc := 0) dX11_draw_0 rfl rfl ?_
  refine tz_iconst (pc := 1) dX11_draw_1 ?_
  refine tz_icmp_lt (pc := 2) (tgt := 10) dX11_draw_2 (by decide) (by omega) (by decide) (fun h_2 => ?_) (fun h_2 => ?_)
  · refine tz_aload_n (pc := 10) dX11_draw_10 rfl rfl ?_
    refine tz_iconst (pc := 11) dX11_draw_11 ?_
    refine tz_iconst (pc := 12) dX11_draw_12 ?_
    refine tz_cV (pc := 13) (zc_refused hl n _ _ _ (by decide) (by decide) (by decide)) vl_X11_284 dX11_draw_13 o_0 rfl rfl (Nat.le_of_ble_eq_true rfl) ⟨(Nat.le_of_ble_eq_true rfl), (Nat.le_of_ble_eq_true rfl)⟩ rfl rfl (Nat.le_of_ble_eq_true rfl) (Nat.le_of_ble_eq_true rfl) (fun r9 J_13 hq9 => ?_)
    obtain ⟨z_13, rfl, hz_13, rfl, f_13⟩ := hq9
    exact tz_iret (pc := 16) (z := (-1)) dX11_draw_16 rfl (Nat.le_of_ble_eq_true rfl) (Nat.le_of_ble_eq_true rfl) ⟨Nat.le_refl _, Nat.le_add_right _ _⟩ ⟨_, rfl, (by decide), ⟨by split <;> omega, ((zOf.mono f_13 (zb164 (by decide))).tr zOf.rf)⟩⟩
  · refine tz_iload_n (pc := 5) dX11_draw_5 rfl rfl ?_
    refine tz_iconst (pc := 6) dX11_draw_6 ?_
    refine tz_icmp_le (pc := 7) (tgt := 17) dX11_draw_7 (by decide) (by omega) (by decide) (fun h_7 => ?_) (fun h_7 => ?_)
    · refine tz_aload_n (pc := 17) dX11_draw_17 rfl rfl ?_
      refine tz_fR (pc := 18) dX11_draw_18 fl_X11_29 r_0_1 ?_
      refine tz_cV (pc := 21) (zc_begin hl n _) vl_X11_287 dX11_draw_21 o_5 rfl rfl (Nat.le_of_ble_eq_true rfl) ⟨(Nat.le_of_ble_eq_true rfl), (Nat.le_of_ble_eq_true rfl)⟩ rfl rfl (Nat.le_of_ble_eq_true rfl) (Nat.le_of_ble_eq_true rfl) (fun r9 J_21 hq9 => ?_)
      obtain ⟨rfl, rfl⟩ := hq9
      refine tz_aload_n (pc := 24) dX11_draw_24 rfl rfl ?_
      refine tz_fR (pc := 25) dX11_draw_25 fl_X11_62 r_0_7 ?_
      refine tz_iload_n (pc := 28) dX11_draw_28 rfl rfl ?_
      refine tz_pI (pc := 29) (kz := 5) dX11_draw_29 fl_X11_369 i_141_5 rfl rfl (by omega) ?_
      refine tz_aload_n (pc := 32) dX11_draw_32 rfl rfl ?_
      refine tz_aload_n (pc := 33) dX11_draw_33 rfl rfl ?_
      refine tz_fR (pc := 34) dX11_draw_34 fl_X11_62 r_0_7 ?_
      refine tz_iload_n (pc := 37) dX11_draw_37 rfl rfl ?_
      refine tz_cV (pc := 38) (zc1_drawn hl n _ _ (by omega) 0 (zc1_TV0 (zjv (z := 0) (F.at (by decide) z_1_3) rfl (by decide)) (zjv (z := 0) (F.at (by decide) z_6_12) rfl (by decide)) (zjv (z := (-1)) (F.at (by decide) z_16_0) rfl (by decide))) (by decide)) vl_X11_372 dX11_draw_38 o_141 rfl rfl (Nat.le_of_ble_eq_true rfl) ⟨(Nat.le_of_ble_eq_true rfl), (Nat.le_of_ble_eq_true rfl)⟩ rfl rfl (Nat.le_of_ble_eq_true rfl) (Nat.le_of_ble_eq_true rfl) (fun r9 J_38 hq9 => ?_)
      obtain ⟨z_38, rfl, hz_38, m_38, hp1_38, hp2_38, f_38⟩ := hq9
      refine tz_cV (pc := 41) (zc1_settled hl n _ _ (by omega) (by omega) (Eq.trans (congrFun (f_38 5 rfl) 6) (zjv (z := 0) (F.at (by decide) z_5_6) rfl (by decide))) (Eq.trans (congrFun (f_38 5 rfl) 5) (zjv (z := 0) (F.at (by decide) z_5_5) rfl (by decide)))) vl_X11_293 dX11_draw_41 o_0 rfl rfl (Nat.le_of_ble_eq_true rfl) ⟨(Nat.le_of_ble_eq_true rfl), (Nat.le_of_ble_eq_true rfl)⟩ rfl rfl (Nat.le_of_ble_eq_true rfl) (Nat.le_of_ble_eq_true rfl) (fun r9 J_41 hq9 => ?_)
      obtain ⟨z_41, rfl, hz_41, rfl, f_41⟩ := hq9
      exact tz_iret (pc := 44) (z := z_38) dX11_draw_44 rfl (Nat.le_of_ble_eq_true rfl) (Nat.le_of_ble_eq_true rfl) ⟨Nat.le_refl _, Nat.le_add_right _ _⟩ ⟨_, rfl, (by omega), ⟨by split <;> omega, ((zOf.mono f_41 (zb164 (by decide))).tr ((zOf.mono f_38 (zb164 (by decide))).tr (zOf.up rfl (zOf.cp rfl (zOf.up rfl zOf.rf)))))⟩⟩
    · refine tz_aload_n (pc := 10) dX11_draw_10 rfl rfl ?_
      refine tz_iconst (pc := 11) dX11_draw_11 ?_
      refine tz_iconst (pc := 12) dX11_draw_12 ?_
      refine tz_cV (pc := 13) (zc_refused hl n _ _ _ (by decide) (by decide) (by decide)) vl_X11_284 dX11_draw_13 o_0 rfl rfl (Nat.le_of_ble_eq_true rfl) ⟨(Nat.le_of_ble_eq_true rfl), (Nat.le_of_ble_eq_true rfl)⟩ rfl rfl (Nat.le_of_ble_eq_true rfl) (Nat.le_of_ble_eq_true rfl) (fun r9 J_13 hq9 => ?_)
      obtain ⟨z_13, rfl, hz_13, rfl, f_13⟩ := hq9
      exact tz_iret (pc := 16) (z := (-1)) dX11_draw_16 rfl (Nat.le_of_ble_eq_true rfl) (Nat.le_of_ble_eq_true rfl) ⟨Nat.le_refl _, Nat.le_add_right _ _⟩ ⟨_, rfl, (by decide), ⟨by split <;> omega, ((zOf.mono f_13 (zb164 (by decide))).tr zOf.rf)⟩⟩

set_option maxHeartbeats 4000000 in
set_option maxRecDepth 100000 in
theorem c1_room {l : Launch} {G : tb_G} (hl : l.stackTraces = false) (n : Nat) (I : tb_I) (F : tb_Fr I) (r : Int) (hr_r : -2147483648 ≤ r ∧ r < 2147483648)   : tz_Ok l G M_X11_room 2 0 0 [.ref 0, zi r] n (zj I) (zqi (fun z J' => (z = if 0 ≤ r ∧ r ≤ 9 then 4 else (-1)) ∧ zOf (zfrom 164) J' (zj I))) zN := by
  refine tz_Ok.of hl (by decide +kernel) rfl (tb_c1 rfl) (Nat.le_of_ble_eq_true rfl) ?_
  show tz_At l G M_X11_room (tb_rm 2 0 0) none (tb_ZM G 0 0 (zQ n 0 (zqi (fun z J' => (z = if 0 ≤ r ∧ r ≤ 9 then 4 else (-1)) ∧ zOf (zfrom 164) J' (zj I)))) (zX n 0 zN)) 0 0 n (zj I) 0 [some (.ref 0), some (zi r), none] []
  refine tz_iload_n (pc := 0) dX11_room_0 rfl rfl ?_
  refine tz_if_lt (pc := 1) (tgt := 10) dX11_room_1 (by decide) (by omega) (fun h_1 => ?_) (fun h_1 => ?_)
  · refine tz_aload_n (pc := 10) dX11_room_10 rfl rfl ?_
    refine tz_iconst (pc := 11) dX11_room_11 ?_
    refine tz_iconst (pc := 12) dX11_room_12 ?_
    refine tz_cV (pc := 13) (zc_refused hl n _ _ _ (by decide) (by decide) (by decide)) vl_X11_284 dX11_room_13 o_0 rfl rfl (Nat.le_of_ble_eq_true rfl) ⟨(Nat.le_of_ble_eq_true rfl), (Nat.le_of_ble_eq_true rfl)⟩ rfl rfl (Nat.le_of_ble_eq_true rfl) (Nat.le_of_ble_eq_true rfl) (fun r9 J_13 hq9 => ?_)
    obtain ⟨z_13, rfl, hz_13, rfl, f_13⟩ := hq9
    exact tz_iret (pc := 16) (z := (-1)) dX11_room_16 rfl (Nat.le_of_ble_eq_true rfl) (Nat.le_of_ble_eq_true rfl) ⟨Nat.le_refl _, Nat.le_add_right _ _⟩ ⟨_, rfl, (by decide), ⟨by split <;> omega, ((zOf.mono f_13 (zb164 (by decide))).tr zOf.rf)⟩⟩
  · refine tz_iload_n (pc := 4) dX11_room_4 rfl rfl ?_
    refine tz_bipush (pc := 5) dX11_room_5 (by decide) ?_
    refine tz_icmp_le (pc := 7) (tgt := 17) dX11_room_7 (by decide) (by omega) (by decide) (fun h_7 => ?_) (fun h_7 => ?_)
    · refine tz_aload_n (pc := 17) dX11_room_17 rfl rfl ?_
      refine tz_fR (pc := 18) dX11_room_18 fl_X11_29 r_0_1 ?_
      refine tz_fR (pc := 21) dX11_room_21 fl_X11_156 r_5_1 ?_
      refine tz_fR (pc := 24) dX11_room_24 fl_X11_167 r_18_0 ?_
      refine tz_iconst (pc := 27) dX11_room_27 ?_
      refine tz_aL (pc := 28) (z := 1) (v := 4) dX11_room_28 a_19 rfl (by decide) (zjv (z := 4) (F.at (by decide) z_19_1) rfl (by decide)) (fun _ => ?_)
      refine tz_istore_n (pc := 29) (L2 := [_, _, _]) dX11_room_29 rfl (by decide) rfl ?_
      refine tz_aload_n (pc := 30) dX11_room_30 rfl rfl ?_
      refine tz_fR (pc := 31) dX11_room_31 fl_X11_29 r_0_1 ?_
      refine tz_cV (pc := 34) (zc_begin hl n _) vl_X11_287 dX11_room_34 o_5 rfl rfl (Nat.le_of_ble_eq_true rfl) ⟨(Nat.le_of_ble_eq_true rfl), (Nat.le_of_ble_eq_true rfl)⟩ rfl rfl (Nat.le_of_ble_eq_true rfl) (Nat.le_of_ble_eq_true rfl) (fun r9 J_34 hq9 => ?_)
      obtain ⟨rfl, rfl⟩ := hq9
      refine tz_aload_n (pc := 37) dX11_room_37 rfl rfl ?_
      refine tz_fR (pc := 38) dX11_room_38 fl_X11_29 r_0_1 ?_
      refine tz_fR (pc := 41) dX11_room_41 fl_X11_156 r_5_1 ?_
      refine tz_iload_n (pc := 44) dX11_room_44 rfl rfl ?_
      refine tz_cV (pc := 45) (zc_tellRoom hl n _ _ (by omega)) vl_X11_366 dX11_room_45 o_18 rfl rfl (Nat.le_of_ble_eq_true rfl) ⟨(Nat.le_of_ble_eq_true rfl), (Nat.le_of_ble_eq_true rfl)⟩ rfl rfl (Nat.le_of_ble_eq_true rfl) (Nat.le_of_ble_eq_true rfl) (fun r9 J_45 hq9 => ?_)
      obtain ⟨rfl, f_45⟩ := hq9
      refine tz_aload_n (pc := 48) dX11_room_48 rfl rfl ?_
      refine tz_fR (pc := 49) dX11_room_49 fl_X11_29 r_0_1 ?_
      refine tz_cV (pc := 52) (zc1_keep0 hl n _ (Eq.trans (congrFun (f_45 5 rfl) 6) (zjv (z := 0) (F.at (by decide) z_5_6) rfl (by decide))) (Eq.trans (congrFun (f_45 5 rfl) 5) (zjv (z := 0) (F.at (by decide) z_5_5) rfl (by decide)))) vl_X11_305 dX11_room_52 o_5 rfl rfl (Nat.le_of_ble_eq_true rfl) ⟨(Nat.le_of_ble_eq_true rfl), (Nat.le_of_ble_eq_true rfl)⟩ rfl rfl (Nat.le_of_ble_eq_true rfl) (Nat.le_of_ble_eq_true rfl) (fun r9 J_52 hq9 => ?_)
      obtain ⟨rfl, f_52⟩ := hq9
      refine tz_iload_n (pc := 55) dX11_room_55 rfl rfl ?_
      exact tz_iret (pc := 56) (z := 4) dX11_room_56 rfl (Nat.le_of_ble_eq_true rfl) (Nat.le_of_ble_eq_true rfl) ⟨Nat.le_refl _, Nat.le_add_right _ _⟩ ⟨_, rfl, (by decide), ⟨by split <;> omega, ((zOf.mono f_52 (zb164 (by decide))).tr ((zOf.mono f_45 (zb164 (by decide))).tr (zOf.cp rfl (zOf.up rfl zOf.rf))))⟩⟩
    · refine tz_aload_n (pc := 10) dX11_room_10 rfl rfl ?_
      refine tz_iconst (pc := 11) dX11_room_11 ?_
      refine tz_iconst (pc := 12) dX11_room_12 ?_
      refine tz_cV (pc := 13) (zc_refused hl n _ _ _ (by decide) (by decide) (by decide)) vl_X11_284 dX11_room_13 o_0 rfl rfl (Nat.le_of_ble_eq_true rfl) ⟨(Nat.le_of_ble_eq_true rfl), (Nat.le_of_ble_eq_true rfl)⟩ rfl rfl (Nat.le_of_ble_eq_true rfl) (Nat.le_of_ble_eq_true rfl) (fun r9 J_13 hq9 => ?_)
      obtain ⟨z_13, rfl, hz_13, rfl, f_13⟩ := hq9
      exact tz_iret (pc := 16) (z := (-1)) dX11_room_16 rfl (Nat.le_of_ble_eq_true rfl) (Nat.le_of_ble_eq_true rfl) ⟨Nat.le_refl _, Nat.le_add_right _ _⟩ ⟨_, rfl, (by decide), ⟨by split <;> omega, ((zOf.mono f_13 (zb164 (by decide))).tr zOf.rf)⟩⟩

set_option maxHeartbeats 4000000 in
set_option maxRecDepth 100000 in
theorem c1_bound {l : Launch} {G : tb_G} (hl : l.stackTraces = false) (n : Nat) (I : tb_I) (F : tb_Fr I) (v : Int) (hr_v : -2147483648 ≤ v ∧ v < 2147483648)   : tz_Ok l G M_X11_bound 6 1 6 [.ref 0, zi v] n (zj I) (zqi (fun z J' => (z = (-1) ∧ 0 ≤ v ∧ v ≤ 7) ∧ zOf (zfrom 164) J' (zj I))) (fun E J' => ((E = "java/util/NoSuchElementException" ∧ ¬ (0 ≤ v ∧ v ≤ 7))) ∧ zOf (zfrom 164) J' (zj I)) := by
  refine tz_Ok.of hl (by decide +kernel) rfl (tb_c1 rfl) (Nat.le_of_ble_eq_true rfl) ?_
  show tz_At l G M_X11_bound (tb_rm 6 1 6) none (tb_ZM G 1 6 (zQ n 1 (zqi (fun z J' => (z = (-1) ∧ 0 ≤ v ∧ v ≤ 7) ∧ zOf (zfrom 164) J' (zj I)))) (zX n 1 (fun E J' => ((E = "java/util/NoSuchElementException" ∧ ¬ (0 ≤ v ∧ v ≤ 7))) ∧ zOf (zfrom 164) J' (zj I)))) 0 0 n (zj I) 0 [some (.ref 0), some (zi v)] []
  have hbd : ∀ q, 0 ≤ q → q < 8 → zj I 19 (7 + q) = -1 := by
    intro q h1 h2
    have h3 : q = 0 ∨ q = 1 ∨ q = 2 ∨ q = 3 ∨ q = 4 ∨ q = 5 ∨ q = 6 ∨ q = 7 := by omega
    rcases h3 with rfl | rfl | rfl | rfl | rfl | rfl | rfl | rfl
    · exact (zjv (z := (-1)) (F.at (by decide) z_19_7) rfl (by decide))
    · exact (zjv (z := (-1)) (F.at (by decide) z_19_8) rfl (by decide))
    · exact (zjv (z := (-1)) (F.at (by decide) z_19_9) rfl (by decide))
    · exact (zjv (z := (-1)) (F.at (by decide) z_19_10) rfl (by decide))
    · exact (zjv (z := (-1)) (F.at (by decide) z_19_11) rfl (by decide))
    · exact (zjv (z := (-1)) (F.at (by decide) z_19_12) rfl (by decide))
    · exact (zjv (z := (-1)) (F.at (by decide) z_19_13) rfl (by decide))
    · exact (zjv (z := (-1)) (F.at (by decide) z_19_14) rfl (by decide))
  refine tz_iload_n (pc := 0) dX11_bound_0 rfl rfl ?_
  refine tz_cS (pc := 1) (zc_isVarN hl n _ _ (by omega)) sl_X11_279 dX11_bound_1 rfl rfl (Nat.le_of_ble_eq_true rfl) ⟨(Nat.le_of_ble_eq_true rfl), (Nat.le_of_ble_eq_true rfl)⟩ rfl rfl (Nat.le_of_ble_eq_true rfl) (Nat.le_of_ble_eq_true rfl) (fun r9 J_1 hq9 => ?_)
  obtain ⟨z_1, rfl, hz_1, rfl, rfl⟩ := hq9
  by_cases hw_4 : 0 ≤ v ∧ v < 8
  · rw [show (if 0 ≤ v ∧ v < 8 then 1 else 0 : Int) = 1 from if_pos hw_4]
    refine tz_if_neT (pc := 4) (tgt := 18) (by decide) dX11_bound_4 (by decide) (by decide) ?_
    refine tz_aload_n (pc := 18) dX11_bound_18 rfl rfl ?_
    refine tz_fR (pc := 19) dX11_bound_19 fl_X11_29 r_0_1 ?_
    refine tz_fR (pc := 22) dX11_bound_22 fl_X11_156 r_5_1 ?_
    refine tz_fR (pc := 25) dX11_bound_25 fl_X11_167 r_18_0 ?_
    refine tz_bipush (pc := 28) dX11_bound_28 (by decide) ?_
    refine tz_iload_n (pc := 30) dX11_bound_30 rfl rfl ?_
    refine tz_iadd (pc := 31) (v := 7 + v) dX11_bound_31 rfl ?_
    refine tz_aL (pc := 32) (z := (7 + v)) (v := (-1)) dX11_bound_32 a_19 rfl (by omega) (hbd v hw_4.1 hw_4.2) (fun _ => ?_)
    exact tz_iret (pc := 33) (z := (-1)) dX11_bound_33 rfl (Nat.le_of_ble_eq_true rfl) (Nat.le_of_ble_eq_true rfl) ⟨Nat.le_refl _, Nat.le_add_right _ _⟩ ⟨_, rfl, (by decide), ⟨⟨rfl, by omega⟩, zOf.rf⟩⟩
  · rw [show (if 0 ≤ v ∧ v < 8 then 1 else 0 : Int) = 0 from if_neg hw_4]
    refine tz_if_neF (pc := 4) (tgt := 18) (by decide) dX11_bound_4 (by decide) (by decide) ?_
    exact tz_throwNW (pc := 7) (text := "no such variable") th_X11_188_192 (by decide +kernel) rfl dX11_bound_7 dX11_bound_10 dX11_bound_11 dX11_bound_14 dX11_bound_17 (Nat.le_of_ble_eq_true rfl) (Nat.le_of_ble_eq_true rfl) (Nat.le_of_ble_eq_true rfl) (Nat.le_of_ble_eq_true rfl) (Nat.le_of_ble_eq_true rfl) (Nat.le_of_ble_eq_true rfl) ⟨Nat.le_refl _, Nat.le_add_right _ _⟩ ⟨⟨rfl, by omega⟩, zOf.rf⟩

set_option maxHeartbeats 4000000 in
set_option maxRecDepth 100000 in
theorem zc1_teHas {l : Launch} {G : tb_G} (hl : l.stackTraces = false) (n : Nat) (J : zJ) (t : Int) (hr_t : -2147483648 ≤ t ∧ t < 2147483648)  (h0 : J 6 12 = 0) : tz_Ok l G M_X9_has 0 0 0 [.ref 6, zi t] n J (zqi (fun z J' => J = J' ∧ 0 = z)) zN := by
  refine tz_Ok.of hl (by decide +kernel) rfl (tb_c1 rfl) (Nat.le_of_ble_eq_true rfl) ?_
  show tz_At l G M_X9_has (tb_rm 0 0 0) none (tb_ZM G 0 0 (zQ n 0 (zqi (fun z J' => J = J' ∧ 0 = z))) (zX n 0 zN)) 0 0 n J 0 [some (.ref 6), some (zi t)] []
  refine tz_iload_n (pc := 0) dX9_has_0 rfl rfl ?_
  refine tz_if_lt (pc := 1) (tgt := 16) dX9_has_1 (by decide) (by omega) (fun h_1 => ?_) (fun h_1 => ?_)
  · refine tz_iconst (pc := 16) dX9_has_16 ?_
    exact tz_zret (pc := 17) (z := 0) dX9_has_17 rfl (Or.inl rfl) (Nat.le_of_ble_eq_true rfl) (Nat.le_of_ble_eq_true rfl) ⟨Nat.le_refl _, Nat.le_add_right _ _⟩ ⟨_, rfl, (by decide), ⟨rfl, rfl⟩⟩
  · refine tz_iload_n (pc := 4) dX9_has_4 rfl rfl ?_
    refine tz_aload_n (pc := 5) dX9_has_5 rfl rfl ?_
    refine tz_fI (pc := 6) (kz := 12) (v := 0) dX9_has_6 fl_X9_45 i_6_12 rfl h0 (fun _ => ?_)
    refine tz_icmp_geT (pc := 9) (tgt := 16) (by omega) dX9_has_9 (by decide) (by omega) (by decide) ?_
    refine tz_iconst (pc := 16) dX9_has_16 ?_
    exact tz_zret (pc := 17) (z := 0) dX9_has_17 rfl (Or.inl rfl) (Nat.le_of_ble_eq_true rfl) (Nat.le_of_ble_eq_true rfl) ⟨Nat.le_refl _, Nat.le_add_right _ _⟩ ⟨_, rfl, (by decide), ⟨rfl, rfl⟩⟩

set_option maxHeartbeats 4000000 in
set_option maxRecDepth 100000 in
theorem c1_bind {l : Launch} {G : tb_G} (hl : l.stackTraces = false) (n : Nat) (I : tb_I) (F : tb_Fr I) (v : Int) (t : Int) (hr_v : -2147483648 ≤ v ∧ v < 2147483648) (hr_t : -2147483648 ≤ t ∧ t < 2147483648)   : tz_Ok l G M_X11_bind 1 0 0 [.ref 0, zi v, zi t] n (zj I) (zqi (fun z J' => (z = -2) ∧ zOf (zfrom 164) J' (zj I))) zN := by
  refine tz_Ok.of hl (by decide +kernel) rfl (tb_c1 rfl) (Nat.le_of_ble_eq_true rfl) ?_
  show tz_At l G M_X11_bind (tb_rm 1 0 0) none (tb_ZM G 0 0 (zQ n 0 (zqi (fun z J' => (z = -2) ∧ zOf (zfrom 164) J' (zj I)))) (zX n 0 zN)) 0 0 n (zj I) 0 [some (.ref 0), some (zi v), some (zi t), none] []
  have hbd : ∀ q, 0 ≤ q → q < 8 → zj I 19 (7 + q) = -1 := by
    intro q h1 h2
    have h3 : q = 0 ∨ q = 1 ∨ q = 2 ∨ q = 3 ∨ q = 4 ∨ q = 5 ∨ q = 6 ∨ q = 7 := by omega
    rcases h3 with rfl | rfl | rfl | rfl | rfl | rfl | rfl | rfl
    · exact (zjv (z := (-1)) (F.at (by decide) z_19_7) rfl (by decide))
    · exact (zjv (z := (-1)) (F.at (by decide) z_19_8) rfl (by decide))
    · exact (zjv (z := (-1)) (F.at (by decide) z_19_9) rfl (by decide))
    · exact (zjv (z := (-1)) (F.at (by decide) z_19_10) rfl (by decide))
    · exact (zjv (z := (-1)) (F.at (by decide) z_19_11) rfl (by decide))
    · exact (zjv (z := (-1)) (F.at (by decide) z_19_12) rfl (by decide))
    · exact (zjv (z := (-1)) (F.at (by decide) z_19_13) rfl (by decide))
    · exact (zjv (z := (-1)) (F.at (by decide) z_19_14) rfl (by decide))
  refine tz_iload_n (pc := 0) dX11_bind_0 rfl rfl ?_
  refine tz_cS (pc := 1) (zc_isVarN hl n _ _ (by omega)) sl_X11_279 dX11_bind_1 rfl rfl (Nat.le_of_ble_eq_true rfl) ⟨(Nat.le_of_ble_eq_true rfl), (Nat.le_of_ble_eq_true rfl)⟩ rfl rfl (Nat.le_of_ble_eq_true rfl) (Nat.le_of_ble_eq_true rfl) (fun r9 J_1 hq9 => ?_)
  obtain ⟨z_1, rfl, hz_1, rfl, rfl⟩ := hq9
  by_cases hw_4 : 0 ≤ v ∧ v < 8
  · rw [show (if 0 ≤ v ∧ v < 8 then 1 else 0 : Int) = 1 from if_pos hw_4]
    refine tz_if_eqF (pc := 4) (tgt := 26) (by decide) dX11_bind_4 (by decide) (by decide) ?_
    refine tz_iload_n (pc := 7) dX11_bind_7 rfl rfl ?_
    refine tz_iconst (pc := 8) dX11_bind_8 ?_
    refine tz_icmp_eq (pc := 9) (tgt := 34) dX11_bind_9 (by decide) (by omega) (by decide) (fun h_9 => ?_) (fun h_9 => ?_)
    · refine tz_aload_n (pc := 34) dX11_bind_34 rfl rfl ?_
      refine tz_fR (pc := 35) dX11_bind_35 fl_X11_29 r_0_1 ?_
      refine tz_fR (pc := 38) dX11_bind_38 fl_X11_156 r_5_1 ?_
      refine tz_fR (pc := 41) dX11_bind_41 fl_X11_167 r_18_0 ?_
      refine tz_bipush (pc := 44) dX11_bind_44 (by decide) ?_
      refine tz_iload_n (pc := 46) dX11_bind_46 rfl rfl ?_
      refine tz_iadd (pc := 47) (v := 7 + v) dX11_bind_47 rfl ?_
      refine tz_aL (pc := 48) (z := (7 + v)) (v := (-1)) dX11_bind_48 a_19 rfl (by omega) (hbd v hw_4.1 hw_4.2) (fun _ => ?_)
      refine tz_istore_n (pc := 49) (L2 := [_, _, _, _]) dX11_bind_49 rfl (by decide) rfl ?_
      refine tz_iload_n (pc := 50) dX11_bind_50 rfl rfl ?_
      refine tz_iload_n (pc := 51) dX11_bind_51 rfl rfl ?_
      refine tz_icmp_neF (pc := 52) (tgt := 63) (by omega) dX11_bind_52 (by decide) (by decide) (by omega) ?_
      refine tz_aload_n (pc := 55) dX11_bind_55 rfl rfl ?_
      refine tz_iconst (pc := 56) dX11_bind_56 ?_
      refine tz_bipush (pc := 57) dX11_bind_57 (by decide) ?_
      refine tz_cV (pc := 59) (zc_refused hl n _ _ _ (by decide) (by decide) (by decide)) vl_X11_284 dX11_bind_59 o_0 rfl rfl (Nat.le_of_ble_eq_true rfl) ⟨(Nat.le_of_ble_eq_true rfl), (Nat.le_of_ble_eq_true rfl)⟩ rfl rfl (Nat.le_of_ble_eq_true rfl) (Nat.le_of_ble_eq_true rfl) (fun r9 J_59 hq9 => ?_)
      obtain ⟨z_59, rfl, hz_59, rfl, f_59⟩ := hq9
      exact tz_iret (pc := 62) (z := (-2)) dX11_bind_62 rfl (Nat.le_of_ble_eq_true rfl) (Nat.le_of_ble_eq_true rfl) ⟨Nat.le_refl _, Nat.le_add_right _ _⟩ ⟨_, rfl, (by decide), ⟨rfl, ((zOf.mono f_59 (zb164 (by decide))).tr zOf.rf)⟩⟩
    · refine tz_aload_n (pc := 12) dX11_bind_12 rfl rfl ?_
      refine tz_fR (pc := 13) dX11_bind_13 fl_X11_29 r_0_1 ?_
      refine tz_fR (pc := 16) dX11_bind_16 fl_X11_49 r_5_0 ?_
      refine tz_iload_n (pc := 19) dX11_bind_19 rfl rfl ?_
      refine tz_cV (pc := 20) (zc1_teHas hl n _ _ (by omega) (zjv (z := 0) (F.at (by decide) z_6_12) rfl (by decide))) vl_X11_304 dX11_bind_20 o_6 rfl rfl (Nat.le_of_ble_eq_true rfl) ⟨(Nat.le_of_ble_eq_true rfl), (Nat.le_of_ble_eq_true rfl)⟩ rfl rfl (Nat.le_of_ble_eq_true rfl) (Nat.le_of_ble_eq_true rfl) (fun r9 J_20 hq9 => ?_)
      obtain ⟨z_20, rfl, hz_20, rfl, rfl⟩ := hq9
      refine tz_if_neF (pc := 23) (tgt := 34) (by decide) dX11_bind_23 (by decide) (by decide) ?_
      refine tz_aload_n (pc := 26) dX11_bind_26 rfl rfl ?_
      refine tz_iconst (pc := 27) dX11_bind_27 ?_
      refine tz_bipush (pc := 28) dX11_bind_28 (by decide) ?_
      refine tz_cV (pc := 30) (zc_refused hl n _ _ _ (by decide) (by decide) (by decide)) vl_X11_284 dX11_bind_30 o_0 rfl rfl (Nat.le_of_ble_eq_true rfl) ⟨(Nat.le_of_ble_eq_true rfl), (Nat.le_of_ble_eq_true rfl)⟩ rfl rfl (Nat.le_of_ble_eq_true rfl) (Nat.le_of_ble_eq_true rfl) (fun r9 J_30 hq9 => ?_)
      obtain ⟨z_30, rfl, hz_30, rfl, f_30⟩ := hq9
      exact tz_iret (pc := 33) (z := (-2)) dX11_bind_33 rfl (Nat.le_of_ble_eq_true rfl) (Nat.le_of_ble_eq_true rfl) ⟨Nat.le_refl _, Nat.le_add_right _ _⟩ ⟨_, rfl, (by decide), ⟨rfl, ((zOf.mono f_30 (zb164 (by decide))).tr zOf.rf)⟩⟩
  · rw [show (if 0 ≤ v ∧ v < 8 then 1 else 0 : Int) = 0 from if_neg hw_4]
    refine tz_if_eqT (pc := 4) (tgt := 26) (by decide) dX11_bind_4 (by decide) (by decide) ?_
    refine tz_aload_n (pc := 26) dX11_bind_26 rfl rfl ?_
    refine tz_iconst (pc := 27) dX11_bind_27 ?_
    refine tz_bipush (pc := 28) dX11_bind_28 (by decide) ?_
    refine tz_cV (pc := 30) (zc_refused hl n _ _ _ (by decide) (by decide) (by decide)) vl_X11_284 dX11_bind_30 o_0 rfl rfl (Nat.le_of_ble_eq_true rfl) ⟨(Nat.le_of_ble_eq_true rfl), (Nat.le_of_ble_eq_true rfl)⟩ rfl rfl (Nat.le_of_ble_eq_true rfl) (Nat.le_of_ble_eq_true rfl) (fun r9 J_30 hq9 => ?_)
    obtain ⟨z_30, rfl, hz_30, rfl, f_30⟩ := hq9
    exact tz_iret (pc := 33) (z := (-2)) dX11_bind_33 rfl (Nat.le_of_ble_eq_true rfl) (Nat.le_of_ble_eq_true rfl) ⟨Nat.le_refl _, Nat.le_add_right _ _⟩ ⟨_, rfl, (by decide), ⟨rfl, ((zOf.mono f_30 (zb164 (by decide))).tr zOf.rf)⟩⟩

set_option maxHeartbeats 4000000 in
set_option maxRecDepth 100000 in
theorem c1_image {l : Launch} {G : tb_G} (hl : l.stackTraces = false) (n : Nat) (I : tb_I) (F : tb_Fr I)     : tz_Ok l G M_X11_image 3 0 0 [.ref 0] n (zj I) (zqv (fun J' => zOf (zfrom 164) J' (zj I))) zN := by
  refine tz_Ok.of hl (by decide +kernel) rfl (tb_c1 rfl) (Nat.le_of_ble_eq_true rfl) ?_
  show tz_At l G M_X11_image (tb_rm 3 0 0) none (tb_ZM G 0 0 (zQ n 0 (zqv (fun J' => zOf (zfrom 164) J' (zj I)))) (zX n 0 zN)) 0 0 n (zj I) 0 [some (.ref 0)] []
  refine tz_aload_n (pc := 0) dX11_image_0 rfl rfl ?_
  refine tz_fR (pc := 1) dX11_image_1 fl_X11_33 r_0_2 ?_
  refine tz_aload_n (pc := 4) dX11_image_4 rfl rfl ?_
  refine tz_fR (pc := 5) dX11_image_5 fl_X11_29 r_0_1 ?_
  refine tz_cV (pc := 8) (zc1_coTake hl n _ (zjv (z := 0) (F.at (by decide) z_6_12) rfl (by decide)) (zjv (z := 0) (F.at (by decide) z_5_6) rfl (by decide))) vl_X11_394 dX11_image_8 o_63 rfl rfl (Nat.le_of_ble_eq_true rfl) ⟨(Nat.le_of_ble_eq_true rfl), (Nat.le_of_ble_eq_true rfl)⟩ rfl rfl (Nat.le_of_ble_eq_true rfl) (Nat.le_of_ble_eq_true rfl) (fun r9 J_8 hq9 => ?_)
  obtain ⟨rfl, f_8⟩ := hq9
  refine tz_aload_n (pc := 11) dX11_image_11 rfl rfl ?_
  refine tz_iconst (pc := 12) dX11_image_12 ?_
  refine tz_pZ (pc := 13) (kz := 15) dX11_image_13 fl_X11_114 i_0_15 rfl rfl (Or.inr rfl) ?_
  exact tz_vret (pc := 16) dX11_image_16 rfl (Nat.le_of_ble_eq_true rfl) (Nat.le_of_ble_eq_true rfl) ⟨Nat.le_refl _, Nat.le_add_right _ _⟩ ⟨rfl, (zOf.up rfl ((zOf.mono f_8 (zb164 (by decide))).tr zOf.rf))⟩

set_option maxHeartbeats 4000000 in
set_option maxRecDepth 100000 in
theorem c1_years {l : Launch} {G : tb_G} (hl : l.stackTraces = false) (n : Nat) (I : tb_I) (F : tb_Fr I) (s : Int) (y : Int) (w : Int) (hr_s : -2147483648 ≤ s ∧ s < 2147483648) (hr_y : -2147483648 ≤ y ∧ y < 2147483648) (hr_w : -2147483648 ≤ w ∧ w < 2147483648)   : tz_Ok l G M_X11_years 7 1 6 [.ref 0, zi s, zi y, zi w] n (zj I) (zqi (fun z J' => (z = 0 ∧ (0 ≤ w ∧ w ≤ 2) ∧ 0 ≤ y ∧ y ≤ 20) ∧ zOf (zfrom 164) J' (zj I))) (fun E J' => ((E = "java/util/NoSuchElementException" ∧ ¬ (0 ≤ w ∧ w ≤ 2)) ∨ (E = "java/lang/IllegalArgumentException" ∧ (0 ≤ w ∧ w ≤ 2) ∧ ¬ (0 ≤ y ∧ y ≤ 20))) ∧ zOf (zfrom 164) J' (zj I)) := by
  refine tz_Ok.of hl (by decide +kernel) rfl (tb_c1 rfl) (Nat.le_of_ble_eq_true rfl) ?_
  show tz_At l G M_X11_years (tb_rm 7 1 6) none (tb_ZM G 1 6 (zQ n 1 (zqi (fun z J' => (z = 0 ∧ (0 ≤ w ∧ w ≤ 2) ∧ 0 ≤ y ∧ y ≤ 20) ∧ zOf (zfrom 164) J' (zj I)))) (zX n 1 (fun E J' => ((E = "java/util/NoSuchElementException" ∧ ¬ (0 ≤ w ∧ w ≤ 2)) ∨ (E = "java/lang/IllegalArgumentException" ∧ (0 ≤ w ∧ w ≤ 2) ∧ ¬ (0 ≤ y ∧ y ≤ 20))) ∧ zOf (zfrom 164) J' (zj I)))) 0 0 n (zj I) 0 [some (.ref 0), some (zi s), some (zi y), some (zi w), none, none] []
  refine tz_iload_n (pc := 0) dX11_years_0 rfl rfl ?_
  refine tz_if_lt (pc := 1) (tgt := 9) dX11_years_1 (by decide) (by omega) (fun h_1 => ?_) (fun h_1 => ?_)
  · exact tz_throwNW (pc := 9) (text := "no such question of the years") th_X11_188_192 (by decide +kernel) rfl dX11_years_9 dX11_years_12 dX11_years_13 dX11_years_16 dX11_years_19 (Nat.le_of_ble_eq_true rfl) (Nat.le_of_ble_eq_true rfl) (Nat.le_of_ble_eq_true rfl) (Nat.le_of_ble_eq_true rfl) (Nat.le_of_ble_eq_true rfl) (Nat.le_of_ble_eq_true rfl) ⟨Nat.le_refl _, Nat.le_add_right _ _⟩ ⟨Or.inl ⟨rfl, by omega⟩, zOf.rf⟩
  · refine tz_iload_n (pc := 4) dX11_years_4 rfl rfl ?_
    refine tz_iconst (pc := 5) dX11_years_5 ?_
    refine tz_icmp_le (pc := 6) (tgt := 20) dX11_years_6 (by decide) (by omega) (by decide) (fun h_6 => ?_) (fun h_6 => ?_)
    · refine tz_iload_n (pc := 20) dX11_years_20 rfl rfl ?_
      refine tz_if_lt (pc := 21) (tgt := 30) dX11_years_21 (by decide) (by omega) (fun h_21 => ?_) (fun h_21 => ?_)
      · exact tz_throwW (pc := 30) (text := "not so many years") th_X11_122_126 (by decide +kernel) rfl dX11_years_30 dX11_years_33 dX11_years_34 dX11_years_37 dX11_years_40 (Nat.le_of_ble_eq_true rfl) (Nat.le_of_ble_eq_true rfl) (Nat.le_of_ble_eq_true rfl) (Nat.le_of_ble_eq_true rfl) (Nat.le_of_ble_eq_true rfl) (Nat.le_of_ble_eq_true rfl) ⟨Nat.le_refl _, Nat.le_add_right _ _⟩ ⟨Or.inr ⟨rfl, by omega⟩, zOf.rf⟩
      · refine tz_iload_n (pc := 24) dX11_years_24 rfl rfl ?_
        refine tz_bipush (pc := 25) dX11_years_25 (by decide) ?_
        refine tz_icmp_le (pc := 27) (tgt := 41) dX11_years_27 (by decide) (by omega) (by decide) (fun h_27 => ?_) (fun h_27 => ?_)
        · refine tz_aload_n (pc := 41) dX11_years_41 rfl rfl ?_
          refine tz_fR (pc := 42) dX11_years_42 fl_X11_29 r_0_1 ?_
          refine tz_cV (pc := 45) (zc_begin hl n _) vl_X11_287 dX11_years_45 o_5 rfl rfl (Nat.le_of_ble_eq_true rfl) ⟨(Nat.le_of_ble_eq_true rfl), (Nat.le_of_ble_eq_true rfl)⟩ rfl rfl (Nat.le_of_ble_eq_true rfl) (Nat.le_of_ble_eq_true rfl) (fun r9 J_45 hq9 => ?_)
          obtain ⟨rfl, rfl⟩ := hq9
          refine tz_aload_n (pc := 48) dX11_years_48 rfl rfl ?_
          refine tz_iload_n (pc := 49) dX11_years_49 rfl rfl ?_
          refine tz_iload_n (pc := 50) dX11_years_50 rfl rfl ?_
          refine tz_cV (pc := 51) (zc1_lostBy hl n _ _ _ (by omega) (by omega) (zc1_TV0 (zjv (z := 0) (F.at (by decide) z_1_3) rfl (by decide)) (zjv (z := 0) (F.at (by decide) z_6_12) rfl (by decide)) (zjv (z := (-1)) (F.at (by decide) z_16_0) rfl (by decide))) (by omega)) vl_X11_382 dX11_years_51 o_0 rfl rfl (Nat.le_of_ble_eq_true rfl) ⟨(Nat.le_of_ble_eq_true rfl), (Nat.le_of_ble_eq_true rfl)⟩ rfl rfl (Nat.le_of_ble_eq_true rfl) (Nat.le_of_ble_eq_true rfl) (fun r9 J_51 hq9 => ?_)
          obtain ⟨z_51, rfl, hz_51, rfl, ⟨m9, TV9⟩, f_51⟩ := hq9
          refine tz_istore (pc := 54) (L2 := [_, _, _, _, _, _]) dX11_years_54 (by decide) rfl ?_
          refine tz_iload (pc := 56) dX11_years_56 rfl ?_
          refine tz_iconst (pc := 58) dX11_years_58 ?_
          refine tz_icmp_neT (pc := 59) (tgt := 66) (by decide) dX11_years_59 (by decide) (by decide) (by decide) ?_
          refine tz_aload_n (pc := 66) dX11_years_66 rfl rfl ?_
          refine tz_iload (pc := 67) dX11_years_67 rfl ?_
          refine tz_iload_n (pc := 69) dX11_years_69 rfl rfl ?_
          refine tz_cV (pc := 70) (zc1_yAns hl n _ _ (by omega) (Eq.trans (congrFun (f_51 19 rfl) 2) (zjv (z := 0) (F.at (by decide) z_19_2) rfl (by decide))) (Eq.trans (congrFun (f_51 19 rfl) 3) (zjv (z := 0) (F.at (by decide) z_19_3) rfl (by decide))) (Eq.trans (congrFun (f_51 61 rfl) 2) (zjv (z := 0) (F.at (by decide) z_19_2) rfl (by decide))) (Eq.trans (congrFun (f_51 61 rfl) 3) (zjv (z := 0) (F.at (by decide) z_19_3) rfl (by decide)))) vl_X11_385 dX11_years_70 o_0 rfl rfl (Nat.le_of_ble_eq_true rfl) ⟨(Nat.le_of_ble_eq_true rfl), (Nat.le_of_ble_eq_true rfl)⟩ rfl rfl (Nat.le_of_ble_eq_true rfl) (Nat.le_of_ble_eq_true rfl) (fun r9 J_70 hq9 => ?_)
          obtain ⟨z_70, rfl, hz_70, rfl, rfl⟩ := hq9
          refine tz_istore (pc := 73) (L2 := [_, _, _, _, _, _]) dX11_years_73 (by decide) rfl ?_
          refine tz_aload_n (pc := 75) dX11_years_75 rfl rfl ?_
          refine tz_fR (pc := 76) dX11_years_76 fl_X11_29 r_0_1 ?_
          refine tz_cV (pc := 79) (zc1_roll hl n _ m9 TV9 (Eq.trans (Eq.trans (congrFun (f_51 61 rfl) 0) rfl) (zjv (z := 0) (F.at (by decide) z_6_12) rfl (by decide)))) vl_X11_388 dX11_years_79 o_5 rfl rfl (Nat.le_of_ble_eq_true rfl) ⟨(Nat.le_of_ble_eq_true rfl), (Nat.le_of_ble_eq_true rfl)⟩ rfl rfl (Nat.le_of_ble_eq_true rfl) (Nat.le_of_ble_eq_true rfl) (fun r9 J_79 hq9 => ?_)
          obtain ⟨rfl, f_79⟩ := hq9
          refine tz_iload (pc := 82) dX11_years_82 rfl ?_
          exact tz_iret (pc := 84) (z := 0) dX11_years_84 rfl (Nat.le_of_ble_eq_true rfl) (Nat.le_of_ble_eq_true rfl) ⟨Nat.le_refl _, Nat.le_add_right _ _⟩ ⟨_, rfl, (by decide), ⟨⟨rfl, by omega, by omega⟩, ((zOf.mono f_79 (zb164 (by decide))).tr ((zOf.mono f_51 (zb164 (by decide))).tr (zOf.cp rfl (zOf.up rfl zOf.rf))))⟩⟩
        · exact tz_throwW (pc := 30) (text := "not so many years") th_X11_122_126 (by decide +kernel) rfl dX11_years_30 dX11_years_33 dX11_years_34 dX11_years_37 dX11_years_40 (Nat.le_of_ble_eq_true rfl) (Nat.le_of_ble_eq_true rfl) (Nat.le_of_ble_eq_true rfl) (Nat.le_of_ble_eq_true rfl) (Nat.le_of_ble_eq_true rfl) (Nat.le_of_ble_eq_true rfl) ⟨Nat.le_refl _, Nat.le_add_right _ _⟩ ⟨Or.inr ⟨rfl, by omega⟩, zOf.rf⟩
    · exact tz_throwNW (pc := 9) (text := "no such question of the years") th_X11_188_192 (by decide +kernel) rfl dX11_years_9 dX11_years_12 dX11_years_13 dX11_years_16 dX11_years_19 (Nat.le_of_ble_eq_true rfl) (Nat.le_of_ble_eq_true rfl) (Nat.le_of_ble_eq_true rfl) (Nat.le_of_ble_eq_true rfl) (Nat.le_of_ble_eq_true rfl) (Nat.le_of_ble_eq_true rfl) ⟨Nat.le_refl _, Nat.le_add_right _ _⟩ ⟨Or.inl ⟨rfl, by omega⟩, zOf.rf⟩

set_option maxHeartbeats 4000000 in
set_option maxRecDepth 100000 in
theorem c1_count {l : Launch} {G : tb_G} (hl : l.stackTraces = false) (n : Nat) (I : tb_I) (F : tb_Fr I) (w : Int) (hr_w : -2147483648 ≤ w ∧ w < 2147483648)   : tz_Ok l G M_X11_count 6 1 6 [.ref 0, zi w] n (zj I) (zqi (fun z J' => (z = (if w = 4 then 4 else if w = 10 then (-1) else 0) ∧ 0 ≤ w ∧ w ≤ 16) ∧ zOf (zfrom 164) J' (zj I))) (fun E J' => ((E = "java/util/NoSuchElementException" ∧ ¬ (0 ≤ w ∧ w ≤ 16))) ∧ zOf (zfrom 164) J' (zj I)) := by
  refine tz_Ok.of hl (by decide +kernel) rfl (tb_c1 rfl) (Nat.le_of_ble_eq_true rfl) ?_
  show tz_At l G M_X11_count (tb_rm 6 1 6) none (tb_ZM G 1 6 (zQ n 1 (zqi (fun z J' => (z = (if w = 4 then 4 else if w = 10 then (-1) else 0) ∧ 0 ≤ w ∧ w ≤ 16) ∧ zOf (zfrom 164) J' (zj I)))) (zX n 1 (fun E J' => ((E = "java/util/NoSuchElementException" ∧ ¬ (0 ≤ w ∧ w ≤ 16))) ∧ zOf (zfrom 164) J' (zj I)))) 0 0 n (zj I) 0 [some (.ref 0), some (zi w), none] []
  have hrf : ∀ q, 13 ≤ q → q ≤ 16 → zj I 62 (q - 13) = 0 := by
    intro q h1 h2
    have h3 : q = 13 ∨ q = 14 ∨ q = 15 ∨ q = 16 := by omega
    rcases h3 with rfl | rfl | rfl | rfl
    · exact (zjv (z := 0) (F.at (by decide) z_62_0) rfl (by decide))
    · exact (zjv (z := 0) (F.at (by decide) z_62_1) rfl (by decide))
    · exact (zjv (z := 0) (F.at (by decide) z_62_2) rfl (by decide))
    · exact (zjv (z := 0) (F.at (by decide) z_62_3) rfl (by decide))
  refine tz_aload_n (pc := 0) dX11_count_0 rfl rfl ?_
  refine tz_fR (pc := 1) dX11_count_1 fl_X11_29 r_0_1 ?_
  refine tz_fR (pc := 4) dX11_count_4 fl_X11_156 r_5_1 ?_
  refine tz_fR (pc := 7) dX11_count_7 fl_X11_167 r_18_0 ?_
  refine tz_astore_n (pc := 10) (L2 := [_, _, _]) dX11_count_10 rfl (by decide) rfl ?_
  refine tz_iload_n (pc := 11) dX11_count_11 rfl rfl ?_
  by_cases hs_12 : w < 0 ∨ 16 < w
  · refine tz_tabOut (pc := 12) (tgt := 193) dX11_count_12 (by omega) hs_12 (by decide) ?_
    exact tz_throwN (pc := 193) (text := "no such count") th_X11_188_192 (by decide +kernel) rfl dX11_count_193 dX11_count_196 dX11_count_197 dX11_count_199 dX11_count_202 (Nat.le_of_ble_eq_true rfl) (Nat.le_of_ble_eq_true rfl) (Nat.le_of_ble_eq_true rfl) (Nat.le_of_ble_eq_true rfl) (Nat.le_of_ble_eq_true rfl) (Nat.le_of_ble_eq_true rfl) ⟨Nat.le_refl _, Nat.le_add_right _ _⟩ ⟨⟨rfl, by omega⟩, zOf.rf⟩
  · have hs9 : w = 0 ∨ w = 1 ∨ w = 2 ∨ w = 3 ∨ w = 4 ∨ w = 5 ∨ w = 6 ∨ w = 7 ∨ w = 8 ∨ w = 9 ∨ w = 10 ∨ w = 11 ∨ w = 12 ∨ w = 13 ∨ w = 14 ∨ w = 15 ∨ w = 16 := by omega
    rcases hs9 with hc_12 | hc_12 | hc_12 | hc_12 | hc_12 | hc_12 | hc_12 | hc_12 | hc_12 | hc_12 | hc_12 | hc_12 | hc_12 | hc_12 | hc_12 | hc_12 | hc_12
    · refine tz_tabIn (pc := 12) (tgt := 96) 0 dX11_count_12 hc_12 (by decide) rfl (by decide) ?_
      refine tz_aload_n (pc := 96) dX11_count_96 rfl rfl ?_
      refine tz_fR (pc := 97) dX11_count_97 fl_X11_10 r_0_0 ?_
      refine tz_fI (pc := 100) (kz := 3) (v := 0) dX11_count_100 fl_X11_170 i_1_3 rfl (zjv (z := 0) (F.at (by decide) z_1_3) rfl (by decide)) (fun _ => ?_)
      exact tz_iret (pc := 103) (z := 0) dX11_count_103 rfl (Nat.le_of_ble_eq_true rfl) (Nat.le_of_ble_eq_true rfl) ⟨Nat.le_refl _, Nat.le_add_right _ _⟩ ⟨_, rfl, (by decide), ⟨⟨by subst_vars; first | rfl | (split <;> first | omega | (split <;> omega)), by omega⟩, zOf.rf⟩⟩
    · refine tz_tabIn (pc := 12) (tgt := 104) 1 dX11_count_12 hc_12 (by decide) rfl (by decide) ?_
      refine tz_aload_n (pc := 104) dX11_count_104 rfl rfl ?_
      refine tz_fR (pc := 105) dX11_count_105 fl_X11_29 r_0_1 ?_
      refine tz_fR (pc := 108) dX11_count_108 fl_X11_49 r_5_0 ?_
      refine tz_fI (pc := 111) (kz := 12) (v := 0) dX11_count_111 fl_X11_173 i_6_12 rfl (zjv (z := 0) (F.at (by decide) z_6_12) rfl (by decide)) (fun _ => ?_)
      exact tz_iret (pc := 114) (z := 0) dX11_count_114 rfl (Nat.le_of_ble_eq_true rfl) (Nat.le_of_ble_eq_true rfl) ⟨Nat.le_refl _, Nat.le_add_right _ _⟩ ⟨_, rfl, (by decide), ⟨⟨by subst_vars; first | rfl | (split <;> first | omega | (split <;> omega)), by omega⟩, zOf.rf⟩⟩
    · refine tz_tabIn (pc := 12) (tgt := 115) 2 dX11_count_12 hc_12 (by decide) rfl (by decide) ?_
      refine tz_aload_n (pc := 115) dX11_count_115 rfl rfl ?_
      refine tz_iconst (pc := 116) dX11_count_116 ?_
      refine tz_aL (pc := 117) (z := 4) (v := 0) dX11_count_117 a_19 rfl (by decide) (zjv (z := 0) (F.at (by decide) z_19_4) rfl (by decide)) (fun _ => ?_)
      exact tz_iret (pc := 118) (z := 0) dX11_count_118 rfl (Nat.le_of_ble_eq_true rfl) (Nat.le_of_ble_eq_true rfl) ⟨Nat.le_refl _, Nat.le_add_right _ _⟩ ⟨_, rfl, (by decide), ⟨⟨by subst_vars; first | rfl | (split <;> first | omega | (split <;> omega)), by omega⟩, zOf.rf⟩⟩
    · refine tz_tabIn (pc := 12) (tgt := 119) 3 dX11_count_12 hc_12 (by decide) rfl (by decide) ?_
      refine tz_aload_n (pc := 119) dX11_count_119 rfl rfl ?_
      refine tz_iconst (pc := 120) dX11_count_120 ?_
      refine tz_aL (pc := 121) (z := 5) (v := 0) dX11_count_121 a_19 rfl (by decide) (zjv (z := 0) (F.at (by decide) z_19_5) rfl (by decide)) (fun _ => ?_)
      exact tz_iret (pc := 122) (z := 0) dX11_count_122 rfl (Nat.le_of_ble_eq_true rfl) (Nat.le_of_ble_eq_true rfl) ⟨Nat.le_refl _, Nat.le_add_right _ _⟩ ⟨_, rfl, (by decide), ⟨⟨by subst_vars; first | rfl | (split <;> first | omega | (split <;> omega)), by omega⟩, zOf.rf⟩⟩
    · refine tz_tabIn (pc := 12) (tgt := 123) 4 dX11_count_12 hc_12 (by decide) rfl (by decide) ?_
      refine tz_aload_n (pc := 123) dX11_count_123 rfl rfl ?_
      refine tz_iconst (pc := 124) dX11_count_124 ?_
      refine tz_aL (pc := 125) (z := 1) (v := 4) dX11_count_125 a_19 rfl (by decide) (zjv (z := 4) (F.at (by decide) z_19_1) rfl (by decide)) (fun _ => ?_)
      exact tz_iret (pc := 126) (z := 4) dX11_count_126 rfl (Nat.le_of_ble_eq_true rfl) (Nat.le_of_ble_eq_true rfl) ⟨Nat.le_refl _, Nat.le_add_right _ _⟩ ⟨_, rfl, (by decide), ⟨⟨by subst_vars; first | rfl | (split <;> first | omega | (split <;> omega)), by omega⟩, zOf.rf⟩⟩
    · refine tz_tabIn (pc := 12) (tgt := 127) 5 dX11_count_12 hc_12 (by decide) rfl (by decide) ?_
      refine tz_aload_n (pc := 127) dX11_count_127 rfl rfl ?_
      refine tz_bipush (pc := 128) dX11_count_128 (by decide) ?_
      refine tz_aL (pc := 130) (z := 6) (v := 0) dX11_count_130 a_19 rfl (by decide) (zjv (z := 0) (F.at (by decide) z_19_6) rfl (by decide)) (fun _ => ?_)
      exact tz_iret (pc := 131) (z := 0) dX11_count_131 rfl (Nat.le_of_ble_eq_true rfl) (Nat.le_of_ble_eq_true rfl) ⟨Nat.le_refl _, Nat.le_add_right _ _⟩ ⟨_, rfl, (by decide), ⟨⟨by subst_vars; first | rfl | (split <;> first | omega | (split <;> omega)), by omega⟩, zOf.rf⟩⟩
    · refine tz_tabIn (pc := 12) (tgt := 132) 6 dX11_count_12 hc_12 (by decide) rfl (by decide) ?_
      refine tz_aload_n (pc := 132) dX11_count_132 rfl rfl ?_
      refine tz_iconst (pc := 133) dX11_count_133 ?_
      refine tz_aL (pc := 134) (z := 2) (v := 0) dX11_count_134 a_19 rfl (by decide) (zjv (z := 0) (F.at (by decide) z_19_2) rfl (by decide)) (fun _ => ?_)
      exact tz_iret (pc := 135) (z := 0) dX11_count_135 rfl (Nat.le_of_ble_eq_true rfl) (Nat.le_of_ble_eq_true rfl) ⟨Nat.le_refl _, Nat.le_add_right _ _⟩ ⟨_, rfl, (by decide), ⟨⟨by subst_vars; first | rfl | (split <;> first | omega | (split <;> omega)), by omega⟩, zOf.rf⟩⟩
    · refine tz_tabIn (pc := 12) (tgt := 136) 7 dX11_count_12 hc_12 (by decide) rfl (by decide) ?_
      refine tz_aload_n (pc := 136) dX11_count_136 rfl rfl ?_
      refine tz_iconst (pc := 137) dX11_count_137 ?_
      refine tz_aL (pc := 138) (z := 3) (v := 0) dX11_count_138 a_19 rfl (by decide) (zjv (z := 0) (F.at (by decide) z_19_3) rfl (by decide)) (fun _ => ?_)
      exact tz_iret (pc := 139) (z := 0) dX11_count_139 rfl (Nat.le_of_ble_eq_true rfl) (Nat.le_of_ble_eq_true rfl) ⟨Nat.le_refl _, Nat.le_add_right _ _⟩ ⟨_, rfl, (by decide), ⟨⟨by subst_vars; first | rfl | (split <;> first | omega | (split <;> omega)), by omega⟩, zOf.rf⟩⟩
    · refine tz_tabIn (pc := 12) (tgt := 140) 8 dX11_count_12 hc_12 (by decide) rfl (by decide) ?_
      refine tz_aload_n (pc := 140) dX11_count_140 rfl rfl ?_
      refine tz_fR (pc := 141) dX11_count_141 fl_X11_29 r_0_1 ?_
      refine tz_fR (pc := 144) dX11_count_144 fl_X11_49 r_5_0 ?_
      refine tz_cV (pc := 147) (zc1_unlike hl n _ (zjv (z := 0) (F.at (by decide) z_6_12) rfl (by decide))) vl_X11_176 dX11_count_147 o_6 rfl rfl (Nat.le_of_ble_eq_true rfl) ⟨(Nat.le_of_ble_eq_true rfl), (Nat.le_of_ble_eq_true rfl)⟩ rfl rfl (Nat.le_of_ble_eq_true rfl) (Nat.le_of_ble_eq_true rfl) (fun r9 J_147 hq9 => ?_)
      obtain ⟨z_147, rfl, hz_147, rfl, rfl⟩ := hq9
      exact tz_iret (pc := 150) (z := 0) dX11_count_150 rfl (Nat.le_of_ble_eq_true rfl) (Nat.le_of_ble_eq_true rfl) ⟨Nat.le_refl _, Nat.le_add_right _ _⟩ ⟨_, rfl, (by decide), ⟨⟨by subst_vars; first | rfl | (split <;> first | omega | (split <;> omega)), by omega⟩, zOf.rf⟩⟩
    · refine tz_tabIn (pc := 12) (tgt := 151) 9 dX11_count_12 hc_12 (by decide) rfl (by decide) ?_
      refine tz_aload_n (pc := 151) dX11_count_151 rfl rfl ?_
      refine tz_fR (pc := 152) dX11_count_152 fl_X11_81 r_0_9 ?_
      refine tz_cV (pc := 155) (zc1_meetings hl n _ (zjv (z := 0) (F.at (by decide) z_19_4) rfl (by decide))) vl_X11_179 dX11_count_155 o_155 rfl rfl (Nat.le_of_ble_eq_true rfl) ⟨(Nat.le_of_ble_eq_true rfl), (Nat.le_of_ble_eq_true rfl)⟩ rfl rfl (Nat.le_of_ble_eq_true rfl) (Nat.le_of_ble_eq_true rfl) (fun r9 J_155 hq9 => ?_)
      obtain ⟨z_155, rfl, hz_155, rfl, rfl⟩ := hq9
      exact tz_iret (pc := 158) (z := 0) dX11_count_158 rfl (Nat.le_of_ble_eq_true rfl) (Nat.le_of_ble_eq_true rfl) ⟨Nat.le_refl _, Nat.le_add_right _ _⟩ ⟨_, rfl, (by decide), ⟨⟨by subst_vars; first | rfl | (split <;> first | omega | (split <;> omega)), by omega⟩, zOf.rf⟩⟩
    · refine tz_tabIn (pc := 12) (tgt := 159) 10 dX11_count_12 hc_12 (by decide) rfl (by decide) ?_
      refine tz_aload_n (pc := 159) dX11_count_159 rfl rfl ?_
      refine tz_fR (pc := 160) dX11_count_160 fl_X11_81 r_0_9 ?_
      refine tz_cV (pc := 163) (zc1_firstMeeting hl n _ (zjv (z := 0) (F.at (by decide) z_19_4) rfl (by decide))) vl_X11_182 dX11_count_163 o_155 rfl rfl (Nat.le_of_ble_eq_true rfl) ⟨(Nat.le_of_ble_eq_true rfl), (Nat.le_of_ble_eq_true rfl)⟩ rfl rfl (Nat.le_of_ble_eq_true rfl) (Nat.le_of_ble_eq_true rfl) (fun r9 J_163 hq9 => ?_)
      obtain ⟨z_163, rfl, hz_163, rfl, rfl⟩ := hq9
      exact tz_iret (pc := 166) (z := (-1)) dX11_count_166 rfl (Nat.le_of_ble_eq_true rfl) (Nat.le_of_ble_eq_true rfl) ⟨Nat.le_refl _, Nat.le_add_right _ _⟩ ⟨_, rfl, (by decide), ⟨⟨by subst_vars; first | rfl | (split <;> first | omega | (split <;> omega)), by omega⟩, zOf.rf⟩⟩
    · refine tz_tabIn (pc := 12) (tgt := 167) 11 dX11_count_12 hc_12 (by decide) rfl (by decide) ?_
      refine tz_aload_n (pc := 167) dX11_count_167 rfl rfl ?_
      refine tz_fR (pc := 168) dX11_count_168 fl_X11_29 r_0_1 ?_
      refine tz_fI (pc := 171) (kz := 6) (v := 0) dX11_count_171 fl_X11_185 i_5_6 rfl (zjv (z := 0) (F.at (by decide) z_5_6) rfl (by decide)) (fun _ => ?_)
      exact tz_iret (pc := 174) (z := 0) dX11_count_174 rfl (Nat.le_of_ble_eq_true rfl) (Nat.le_of_ble_eq_true rfl) ⟨Nat.le_refl _, Nat.le_add_right _ _⟩ ⟨_, rfl, (by decide), ⟨⟨by subst_vars; first | rfl | (split <;> first | omega | (split <;> omega)), by omega⟩, zOf.rf⟩⟩
    · refine tz_tabIn (pc := 12) (tgt := 175) 12 dX11_count_12 hc_12 (by decide) rfl (by decide) ?_
      refine tz_aload_n (pc := 175) dX11_count_175 rfl rfl ?_
      refine tz_fI (pc := 176) (kz := 13) (v := 0) dX11_count_176 fl_X11_107 i_0_13 rfl (zjv (z := 0) (F.at (by decide) z_0_13) rfl (by decide)) (fun _ => ?_)
      exact tz_iret (pc := 179) (z := 0) dX11_count_179 rfl (Nat.le_of_ble_eq_true rfl) (Nat.le_of_ble_eq_true rfl) ⟨Nat.le_refl _, Nat.le_add_right _ _⟩ ⟨_, rfl, (by decide), ⟨⟨by subst_vars; first | rfl | (split <;> first | omega | (split <;> omega)), by omega⟩, zOf.rf⟩⟩
    · refine tz_tabIn (pc := 12) (tgt := 180) 13 dX11_count_12 hc_12 (by decide) rfl (by decide) ?_
      refine tz_aload_n (pc := 180) dX11_count_180 rfl rfl ?_
      refine tz_fR (pc := 181) dX11_count_181 fl_X11_29 r_0_1 ?_
      refine tz_fR (pc := 184) dX11_count_184 fl_X11_142 r_5_4 ?_
      refine tz_iload_n (pc := 187) dX11_count_187 rfl rfl ?_
      refine tz_bipush (pc := 188) dX11_count_188 (by decide) ?_
      refine tz_isub (pc := 190) (v := w - 13) dX11_count_190 rfl ?_
      refine tz_aL (pc := 191) (z := (w - 13)) (v := 0) dX11_count_191 a_62 rfl (by omega) (hrf w (by omega) (by omega)) (fun _ => ?_)
      exact tz_iret (pc := 192) (z := 0) dX11_count_192 rfl (Nat.le_of_ble_eq_true rfl) (Nat.le_of_ble_eq_true rfl) ⟨Nat.le_refl _, Nat.le_add_right _ _⟩ ⟨_, rfl, (by decide), ⟨⟨by subst_vars; first | rfl | (split <;> first | omega | (split <;> omega)), by omega⟩, zOf.rf⟩⟩
    · refine tz_tabIn (pc := 12) (tgt := 180) 14 dX11_count_12 hc_12 (by decide) rfl (by decide) ?_
      refine tz_aload_n (pc := 180) dX11_count_180 rfl rfl ?_
      refine tz_fR (pc := 181) dX11_count_181 fl_X11_29 r_0_1 ?_
      refine tz_fR (pc := 184) dX11_count_184 fl_X11_142 r_5_4 ?_
      refine tz_iload_n (pc := 187) dX11_count_187 rfl rfl ?_
      refine tz_bipush (pc := 188) dX11_count_188 (by decide) ?_
      refine tz_isub (pc := 190) (v := w - 13) dX11_count_190 rfl ?_
      refine tz_aL (pc := 191) (z := (w - 13)) (v := 0) dX11_count_191 a_62 rfl (by omega) (hrf w (by omega) (by omega)) (fun _ => ?_)
      exact tz_iret (pc := 192) (z := 0) dX11_count_192 rfl (Nat.le_of_ble_eq_true rfl) (Nat.le_of_ble_eq_true rfl) ⟨Nat.le_refl _, Nat.le_add_right _ _⟩ ⟨_, rfl, (by decide), ⟨⟨by subst_vars; first | rfl | (split <;> first | omega | (split <;> omega)), by omega⟩, zOf.rf⟩⟩
    · refine tz_tabIn (pc := 12) (tgt := 180) 15 dX11_count_12 hc_12 (by decide) rfl (by decide) ?_
      refine tz_aload_n (pc := 180) dX11_count_180 rfl rfl ?_
      refine tz_fR (pc := 181) dX11_count_181 fl_X11_29 r_0_1 ?_
      refine tz_fR (pc := 184) dX11_count_184 fl_X11_142 r_5_4 ?_
      refine tz_iload_n (pc := 187) dX11_count_187 rfl rfl ?_
      refine tz_bipush (pc := 188) dX11_count_188 (by decide) ?_
      refine tz_isub (pc := 190) (v := w - 13) dX11_count_190 rfl ?_
      refine tz_aL (pc := 191) (z := (w - 13)) (v := 0) dX11_count_191 a_62 rfl (by omega) (hrf w (by omega) (by omega)) (fun _ => ?_)
      exact tz_iret (pc := 192) (z := 0) dX11_count_192 rfl (Nat.le_of_ble_eq_true rfl) (Nat.le_of_ble_eq_true rfl) ⟨Nat.le_refl _, Nat.le_add_right _ _⟩ ⟨_, rfl, (by decide), ⟨⟨by subst_vars; first | rfl | (split <;> first | omega | (split <;> omega)), by omega⟩, zOf.rf⟩⟩
    · refine tz_tabIn (pc := 12) (tgt := 180) 16 dX11_count_12 hc_12 (by decide) rfl (by decide) ?_
      refine tz_aload_n (pc := 180) dX11_count_180 rfl rfl ?_
      refine tz_fR (pc := 181) dX11_count_181 fl_X11_29 r_0_1 ?_
      refine tz_fR (pc := 184) dX11_count_184 fl_X11_142 r_5_4 ?_
      refine tz_iload_n (pc := 187) dX11_count_187 rfl rfl ?_
      refine tz_bipush (pc := 188) dX11_count_188 (by decide) ?_
      refine tz_isub (pc := 190) (v := w - 13) dX11_count_190 rfl ?_
      refine tz_aL (pc := 191) (z := (w - 13)) (v := 0) dX11_count_191 a_62 rfl (by omega) (hrf w (by omega) (by omega)) (fun _ => ?_)
      exact tz_iret (pc := 192) (z := 0) dX11_count_192 rfl (Nat.le_of_ble_eq_true rfl) (Nat.le_of_ble_eq_true rfl) ⟨Nat.le_refl _, Nat.le_add_right _ _⟩ ⟨_, rfl, (by decide), ⟨⟨by subst_vars; first | rfl | (split <;> first | omega | (split <;> omega)), by omega⟩, zOf.rf⟩⟩

set_option maxHeartbeats 4000000 in
set_option maxRecDepth 100000 in
theorem c1_bank {l : Launch} {G : tb_G} (hl : l.stackTraces = false) (n : Nat) (I : tb_I) (F : tb_Fr I) (b : Int) (hr_b : -2147483648 ≤ b ∧ b < 2147483648)   : tz_Ok l G M_X11_bank 6 1 6 [.ref 0, zi b] n (zj I) (zqi (fun z J' => (z = 0 ∧ b = 0) ∧ zOf (zfrom 164) J' (zj I))) (fun E J' => ((E = "java/lang/IllegalArgumentException" ∧ ¬ b = 0)) ∧ zOf (zfrom 164) J' (zj I)) := by
  refine tz_Ok.of hl (by decide +kernel) rfl (tb_c1 rfl) (Nat.le_of_ble_eq_true rfl) ?_
  show tz_At l G M_X11_bank (tb_rm 6 1 6) none (tb_ZM G 1 6 (zQ n 1 (zqi (fun z J' => (z = 0 ∧ b = 0) ∧ zOf (zfrom 164) J' (zj I)))) (zX n 1 (fun E J' => ((E = "java/lang/IllegalArgumentException" ∧ ¬ b = 0)) ∧ zOf (zfrom 164) J' (zj I)))) 0 0 n (zj I) 0 [some (.ref 0), some (zi b), none] []
  refine tz_iload_n (pc := 0) dX11_bank_0 rfl rfl ?_
  refine tz_if_lt (pc := 1) (tgt := 12) dX11_bank_1 (by decide) (by omega) (fun h_1 => ?_) (fun h_1 => ?_)
  · exact tz_throw (pc := 12) (text := "the tape has not so many bytes") th_X11_122_126 (by decide +kernel) rfl dX11_bank_12 dX11_bank_15 dX11_bank_16 dX11_bank_18 dX11_bank_21 (Nat.le_of_ble_eq_true rfl) (Nat.le_of_ble_eq_true rfl) (Nat.le_of_ble_eq_true rfl) (Nat.le_of_ble_eq_true rfl) (Nat.le_of_ble_eq_true rfl) (Nat.le_of_ble_eq_true rfl) ⟨Nat.le_refl _, Nat.le_add_right _ _⟩ ⟨⟨rfl, by omega⟩, zOf.rf⟩
  · refine tz_iload_n (pc := 4) dX11_bank_4 rfl rfl ?_
    refine tz_aload_n (pc := 5) dX11_bank_5 rfl rfl ?_
    refine tz_fI (pc := 6) (kz := 13) (v := 0) dX11_bank_6 fl_X11_107 i_0_13 rfl (zjv (z := 0) (F.at (by decide) z_0_13) rfl (by decide)) (fun _ => ?_)
    refine tz_icmp_le (pc := 9) (tgt := 22) dX11_bank_9 (by decide) (by omega) (by decide) (fun h_9 => ?_) (fun h_9 => ?_)
    · refine tz_aload_n (pc := 22) dX11_bank_22 rfl rfl ?_
      refine tz_iconst (pc := 23) dX11_bank_23 ?_
      refine tz_pI (pc := 24) (kz := 13) dX11_bank_24 fl_X11_107 i_0_13 rfl rfl (by decide) ?_
      refine tz_aload_n (pc := 27) dX11_bank_27 rfl rfl ?_
      refine tz_cV (pc := 28) (zc1_setAside hl n _ (zjv (z := 0) (F.at (by decide) z_6_12) rfl (by decide))) vl_X11_129 dX11_bank_28 o_0 rfl rfl (Nat.le_of_ble_eq_true rfl) ⟨(Nat.le_of_ble_eq_true rfl), (Nat.le_of_ble_eq_true rfl)⟩ rfl rfl (Nat.le_of_ble_eq_true rfl) (Nat.le_of_ble_eq_true rfl) (fun r9 J_28 hq9 => ?_)
      obtain ⟨rfl, f_28⟩ := hq9
      refine tz_aload_n (pc := 31) dX11_bank_31 rfl rfl ?_
      refine tz_cV (pc := 32) (zc_startAnew hl n _) vl_X11_132 dX11_bank_32 o_0 rfl rfl (Nat.le_of_ble_eq_true rfl) ⟨(Nat.le_of_ble_eq_true rfl), (Nat.le_of_ble_eq_true rfl)⟩ rfl rfl (Nat.le_of_ble_eq_true rfl) (Nat.le_of_ble_eq_true rfl) (fun r9 J_32 hq9 => ?_)
      obtain ⟨rfl, f_32⟩ := hq9
      refine tz_aload_n (pc := 35) dX11_bank_35 rfl rfl ?_
      refine tz_fR (pc := 36) dX11_bank_36 fl_X11_103 r_0_11 ?_
      refine tz_iload_n (pc := 39) dX11_bank_39 rfl rfl ?_
      refine tz_cV (pc := 40) (zc1_read hl n _ _ (by omega) (by omega)) vl_X11_135 dX11_bank_40 o_163 rfl rfl (Nat.le_of_ble_eq_true rfl) ⟨(Nat.le_of_ble_eq_true rfl), (Nat.le_of_ble_eq_true rfl)⟩ rfl rfl (Nat.le_of_ble_eq_true rfl) (Nat.le_of_ble_eq_true rfl) (fun r9 J_40 hq9 => ?_)
      obtain ⟨z_40, rfl, hz_40, rfl, f_40⟩ := hq9
      refine tz_istore_n (pc := 43) (L2 := [_, _, _]) dX11_bank_43 rfl (by decide) rfl ?_
      refine tz_iload_n (pc := 44) dX11_bank_44 rfl rfl ?_
      refine tz_if_eqT (pc := 45) (tgt := 78) (by decide) dX11_bank_45 (by decide) (by decide) ?_
      refine tz_aload_n (pc := 78) dX11_bank_78 rfl rfl ?_
      refine tz_fR (pc := 79) dX11_bank_79 fl_X11_29 r_0_1 ?_
      refine tz_cV (pc := 82) (zc_forget hl n _) vl_X11_148 dX11_bank_82 o_5 rfl rfl (Nat.le_of_ble_eq_true rfl) ⟨(Nat.le_of_ble_eq_true rfl), (Nat.le_of_ble_eq_true rfl)⟩ rfl rfl (Nat.le_of_ble_eq_true rfl) (Nat.le_of_ble_eq_true rfl) (fun r9 J_82 hq9 => ?_)
      obtain ⟨rfl, f_82⟩ := hq9
      refine tz_aload_n (pc := 85) dX11_bank_85 rfl rfl ?_
      refine tz_iconst (pc := 86) dX11_bank_86 ?_
      refine tz_pZ (pc := 87) (kz := 15) dX11_bank_87 fl_X11_114 i_0_15 rfl rfl (Or.inl rfl) ?_
      refine tz_aload_n (pc := 90) dX11_bank_90 rfl rfl ?_
      refine tz_iconst (pc := 91) dX11_bank_91 ?_
      refine tz_pI (pc := 92) (kz := 14) dX11_bank_92 fl_X11_111 i_0_14 rfl rfl (by decide) ?_
      refine tz_iconst (pc := 95) dX11_bank_95 ?_
      exact tz_iret (pc := 96) (z := 0) dX11_bank_96 rfl (Nat.le_of_ble_eq_true rfl) (Nat.le_of_ble_eq_true rfl) ⟨Nat.le_refl _, Nat.le_add_right _ _⟩ ⟨_, rfl, (by decide), ⟨⟨rfl, by omega⟩, (zOf.up rfl (zOf.up rfl ((zOf.mono f_82 (zb164 (by decide))).tr ((zOf.mono f_40 (zb164 (by decide))).tr ((zOf.mono f_32 (zb164 (by decide))).tr ((zOf.mono f_28 (zb164 (by decide))).tr (zOf.up rfl zOf.rf)))))))⟩⟩
    · exact tz_throw (pc := 12) (text := "the tape has not so many bytes") th_X11_122_126 (by decide +kernel) rfl dX11_bank_12 dX11_bank_15 dX11_bank_16 dX11_bank_18 dX11_bank_21 (Nat.le_of_ble_eq_true rfl) (Nat.le_of_ble_eq_true rfl) (Nat.le_of_ble_eq_true rfl) (Nat.le_of_ble_eq_true rfl) (Nat.le_of_ble_eq_true rfl) (Nat.le_of_ble_eq_true rfl) ⟨Nat.le_refl _, Nat.le_add_right _ _⟩ ⟨⟨rfl, by omega⟩, zOf.rf⟩

