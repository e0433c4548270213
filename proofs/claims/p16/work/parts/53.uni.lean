set_option maxHeartbeats 4000000 in
set_option maxRecDepth 100000 in
theorem c_uTerm {l : Launch} {G : tb_G} (hl : l.stackTraces = false) (n : Nat) (J : zJ) (x : Int) (hr_x : -2147483648 ≤ x ∧ x < 2147483648)  (h0 : 0 ≤ x ∧ x < 800) : tz_Ok l G M_X10_termOf 0 0 0 [.ref 145, zi x] n J (zqi (fun z J' => J = J' ∧ tm x = z)) zN := by
  refine tz_Ok.of hl (by decide +kernel) rfl (tb_c1 rfl) (Nat.le_of_ble_eq_true rfl) ?_
  show tz_At l G M_X10_termOf (tb_rm 0 0 0) none (tb_ZM G 0 0 (zQ n 0 (zqi (fun z J' => J = J' ∧ tm x = z))) (zX n 0 zN)) 0 0 n J 0 [some (.ref 145), some (zi x)] []
  refine tz_iload_n (pc := 0) dX10_termOf_0 rfl rfl ?_
  refine tz_sipush (pc := 1) dX10_termOf_1 (by decide) ?_
  refine tz_icmp_ge (pc := 4) (tgt := 11) dX10_termOf_4 (by decide) (by omega) (by decide) (fun h_4 => ?_) (fun h_4 => ?_)
  · refine tz_iload_n (pc := 11) dX10_termOf_11 rfl rfl ?_
    refine tz_sipush (pc := 12) dX10_termOf_12 (by decide) ?_
    refine tz_isub (pc := 15) (v := x - 400) dX10_termOf_15 rfl ?_
    exact tz_iret (pc := 16) (z := (x - 400)) dX10_termOf_16 rfl (Nat.le_of_ble_eq_true rfl) (Nat.le_of_ble_eq_true rfl) ⟨Nat.le_refl _, Nat.le_add_right _ _⟩ ⟨_, rfl, (by omega), ⟨rfl, by unfold tm; split <;> omega⟩⟩
  · refine tz_iload_n (pc := 7) dX10_termOf_7 rfl rfl ?_
    refine tz_goto (pc := 8) (tgt := 16) dX10_termOf_8 (by decide) ?_
    exact tz_iret (pc := 16) (z := x) dX10_termOf_16 rfl (Nat.le_of_ble_eq_true rfl) (Nat.le_of_ble_eq_true rfl) ⟨Nat.le_refl _, Nat.le_add_right _ _⟩ ⟨_, rfl, (by omega), ⟨rfl, by unfold tm; split <;> omega⟩⟩

set_option maxHeartbeats 4000000 in
set_option maxRecDepth 100000 in
theorem c_uSide {l : Launch} {G : tb_G} (hl : l.stackTraces = false) (n : Nat) (J : zJ) (x : Int) (hr_x : -2147483648 ≤ x ∧ x < 2147483648)  (h0 : 0 ≤ x ∧ x < 800) : tz_Ok l G M_X10_sideOf 0 0 0 [.ref 145, zi x] n J (zqi (fun z J' => J = J' ∧ sd x = z)) zN := by
  refine tz_Ok.of hl (by decide +kernel) rfl (tb_c1 rfl) (Nat.le_of_ble_eq_true rfl) ?_
  show tz_At l G M_X10_sideOf (tb_rm 0 0 0) none (tb_ZM G 0 0 (zQ n 0 (zqi (fun z J' => J = J' ∧ sd x = z))) (zX n 0 zN)) 0 0 n J 0 [some (.ref 145), some (zi x)] []
  refine tz_iload_n (pc := 0) dX10_sideOf_0 rfl rfl ?_
  refine tz_sipush (pc := 1) dX10_sideOf_1 (by decide) ?_
  refine tz_icmp_ge (pc := 4) (tgt := 11) dX10_sideOf_4 (by decide) (by omega) (by decide) (fun h_4 => ?_) (fun h_4 => ?_)
  · refine tz_sipush (pc := 11) dX10_sideOf_11 (by decide) ?_
    exact tz_iret (pc := 14) (z := 400) dX10_sideOf_14 rfl (Nat.le_of_ble_eq_true rfl) (Nat.le_of_ble_eq_true rfl) ⟨Nat.le_refl _, Nat.le_add_right _ _⟩ ⟨_, rfl, (by decide), ⟨rfl, by unfold sd; split <;> omega⟩⟩
  · refine tz_iconst (pc := 7) dX10_sideOf_7 ?_
    refine tz_goto (pc := 8) (tgt := 14) dX10_sideOf_8 (by decide) ?_
    exact tz_iret (pc := 14) (z := 0) dX10_sideOf_14 rfl (Nat.le_of_ble_eq_true rfl) (Nat.le_of_ble_eq_true rfl) ⟨Nat.le_refl _, Nat.le_add_right _ _⟩ ⟨_, rfl, (by decide), ⟨rfl, by unfold sd; split <;> omega⟩⟩

set_option maxHeartbeats 4000000 in
set_option maxRecDepth 100000 in
theorem c_part {l : Launch} {G : tb_G} (hl : l.stackTraces = false) (n : Nat) (J : zJ) (x : Int) (i : Int) (hr_x : -2147483648 ≤ x ∧ x < 2147483648) (hr_i : -2147483648 ≤ i ∧ i < 2147483648) (b m : Int) (C : CT J m) (hx : nd b m x) (hi : 0 ≤ i ∧ i < J 8 (tm x)) : tz_Ok l G M_X10_partOf 1 0 0 [.ref 145, zi x, zi i] n J (zqi (fun z J' => J = J' ∧ nd b m z)) zN := by
  refine tz_Ok.of hl (by decide +kernel) rfl (tb_c1 rfl) (Nat.le_of_ble_eq_true rfl) ?_
  show tz_At l G M_X10_partOf (tb_rm 1 0 0) none (tb_ZM G 0 0 (zQ n 0 (zqi (fun z J' => J = J' ∧ nd b m z))) (zX n 0 zN)) 0 0 n J 0 [some (.ref 145), some (zi x), some (zi i)] []
  have hb := C.told
  have ht := hx.ix hb.2
  have hx2 := hx.rg hb.2
  have ha := C.arg ht.1 ht.2 hi.1 hi.2
  have ha8 := (C.ar ht.1 ht.2).1
  have hs := sd_rg x
  refine tz_aload_n (pc := 0) dX10_partOf_0 rfl rfl ?_
  refine tz_fR (pc := 1) dX10_partOf_1 fl_X10_46 r_145_0 ?_
  refine tz_aload_n (pc := 4) dX10_partOf_4 rfl rfl ?_
  refine tz_iload_n (pc := 5) dX10_partOf_5 rfl rfl ?_
  refine tz_cV (pc := 6) (c_uTerm hl n _ _ (by omega) (by omega)) vl_X10_68 dX10_partOf_6 o_145 rfl rfl (Nat.le_of_ble_eq_true rfl) ⟨(Nat.le_of_ble_eq_true rfl), (Nat.le_of_ble_eq_true rfl)⟩ rfl rfl (Nat.le_of_ble_eq_true rfl) (Nat.le_of_ble_eq_true rfl) (fun r9 J_6 hq9 => ?_)
  obtain ⟨z_6, rfl, hz_6, rfl, rfl⟩ := hq9
  refine tz_iload_n (pc := 9) dX10_partOf_9 rfl rfl ?_
  refine tz_cV (pc := 10) (c_arg hl n _ _ _ (by omega) (by omega) (by omega)) vl_X10_71 dX10_partOf_10 o_6 rfl rfl (Nat.le_of_ble_eq_true rfl) ⟨(Nat.le_of_ble_eq_true rfl), (Nat.le_of_ble_eq_true rfl)⟩ rfl rfl (Nat.le_of_ble_eq_true rfl) (Nat.le_of_ble_eq_true rfl) (fun r9 J_10 hq9 => ?_)
  obtain ⟨z_10, rfl, hz_10, rfl, rfl⟩ := hq9
  refine tz_aload_n (pc := 13) dX10_partOf_13 rfl rfl ?_
  refine tz_iload_n (pc := 14) dX10_partOf_14 rfl rfl ?_
  refine tz_cV (pc := 15) (c_uSide hl n _ _ (by omega) (by omega)) vl_X10_77 dX10_partOf_15 o_145 rfl rfl (Nat.le_of_ble_eq_true rfl) ⟨(Nat.le_of_ble_eq_true rfl), (Nat.le_of_ble_eq_true rfl)⟩ rfl rfl (Nat.le_of_ble_eq_true rfl) (Nat.le_of_ble_eq_true rfl) (fun r9 J_15 hq9 => ?_)
  obtain ⟨z_15, rfl, hz_15, rfl, rfl⟩ := hq9
  refine tz_iadd (pc := 18) (v := (J 9 (tm x * 3 + i)) + (sd x)) dX10_partOf_18 rfl ?_
  exact tz_iret (pc := 19) (z := ((J 9 (tm x * 3 + i)) + (sd x))) dX10_partOf_19 rfl (Nat.le_of_ble_eq_true rfl) (Nat.le_of_ble_eq_true rfl) ⟨Nat.le_refl _, Nat.le_add_right _ _⟩ ⟨_, rfl, (by omega), ⟨rfl, hx.part hb.2 (by omega)⟩⟩

set_option maxHeartbeats 4000000 in
set_option maxRecDepth 100000 in
theorem c_wake {l : Launch} {G : tb_G} (hl : l.stackTraces = false) (n : Nat) (J : zJ) (x : Int) (hr_x : -2147483648 ≤ x ∧ x < 2147483648) (b m : Int) (hm : 0 ≤ m ∧ m ≤ 400) (hx : nd b m x) (hU : UI J b m) : tz_Ok l G M_X10_wake 1 0 0 [.ref 145, zi x] n J (zqv (fun J' => (UW J' J b m ∧ J' 146 x = J 145 10) ∧ zOf (zbut [146, 147, 148, 149, 150, 154]) J' J)) zN := by
  refine tz_Ok.of hl (by decide +kernel) rfl (tb_c1 rfl) (Nat.le_of_ble_eq_true rfl) ?_
  show tz_At l G M_X10_wake (tb_rm 1 0 0) none (tb_ZM G 0 0 (zQ n 0 (zqv (fun J' => (UW J' J b m ∧ J' 146 x = J 145 10) ∧ zOf (zbut [146, 147, 148, 149, 150, 154]) J' J))) (zX n 0 zN)) 0 0 n J 0 [some (.ref 145), some (zi x), none] []
  have ht := hx.ix hm
  have hx2 := hx.rg hm
  refine tz_aload_n (pc := 0) dX10_wake_0 rfl rfl ?_
  refine tz_fR (pc := 1) dX10_wake_1 fl_X10_46 r_145_0 ?_
  refine tz_fR (pc := 4) dX10_wake_4 fl_X10_84 r_6_1 ?_
  refine tz_aload_n (pc := 7) dX10_wake_7 rfl rfl ?_
  refine tz_iload_n (pc := 8) dX10_wake_8 rfl rfl ?_
  refine tz_cV (pc := 9) (c_uTerm hl n _ _ (by omega) (by omega)) vl_X10_68 dX10_wake_9 o_145 rfl rfl (Nat.le_of_ble_eq_true rfl) ⟨(Nat.le_of_ble_eq_true rfl), (Nat.le_of_ble_eq_true rfl)⟩ rfl rfl (Nat.le_of_ble_eq_true rfl) (Nat.le_of_ble_eq_true rfl) (fun r9 J_9 hq9 => ?_)
  obtain ⟨z_9, rfl, hz_9, rfl, rfl⟩ := hq9
  refine tz_aL (pc := 12) (z := (tm x)) (v := (J 7 (tm x))) dX10_wake_12 a_7 rfl (by omega) rfl (fun r_12 => ?_)
  refine tz_if_ge (pc := 13) (tgt := 20) dX10_wake_13 (by decide) (by omega) (fun h_13 => ?_) (fun h_13 => ?_)
  · refine tz_iconst (pc := 20) dX10_wake_20 ?_
    refine tz_istore_n (pc := 21) (L2 := [_, _, _]) dX10_wake_21 rfl (by decide) rfl ?_
    refine tz_aload_n (pc := 22) dX10_wake_22 rfl rfl ?_
    refine tz_fR (pc := 23) dX10_wake_23 fl_X10_11 r_145_1 ?_
    refine tz_iload_n (pc := 26) dX10_wake_26 rfl rfl ?_
    refine tz_aload_n (pc := 27) dX10_wake_27 rfl rfl ?_
    refine tz_fI (pc := 28) (kz := 10) (v := (J 145 10)) dX10_wake_28 fl_X10_39 i_145_10 rfl rfl (fun r_28 => ?_)
    refine tz_aS (pc := 31) (z := x) dX10_wake_31 a_146 rfl (by omega) (by omega) ?_
    refine tz_aload_n (pc := 32) dX10_wake_32 rfl rfl ?_
    refine tz_fR (pc := 33) dX10_wake_33 fl_X10_15 r_145_2 ?_
    refine tz_iload_n (pc := 36) dX10_wake_36 rfl rfl ?_
    refine tz_iload_n (pc := 37) dX10_wake_37 rfl rfl ?_
    refine tz_aS (pc := 38) (z := x) dX10_wake_38 a_147 rfl (by omega) (by omega) ?_
    refine tz_aload_n (pc := 39) dX10_wake_39 rfl rfl ?_
    refine tz_fR (pc := 40) dX10_wake_40 fl_X10_18 r_145_3 ?_
    refine tz_iload_n (pc := 43) dX10_wake_43 rfl rfl ?_
    refine tz_iload_n (pc := 44) dX10_wake_44 rfl rfl ?_
    refine tz_if_eqT (pc := 45) (tgt := 52) (by decide) dX10_wake_45 (by decide) (by decide) ?_
    refine tz_iload_n (pc := 52) dX10_wake_52 rfl rfl ?_
    refine tz_aS (pc := 53) (z := x) dX10_wake_53 a_148 rfl (by omega) (by omega) ?_
    refine tz_aload_n (pc := 54) dX10_wake_54 rfl rfl ?_
    refine tz_fR (pc := 55) dX10_wake_55 fl_X10_21 r_145_4 ?_
    refine tz_iload_n (pc := 58) dX10_wake_58 rfl rfl ?_
    refine tz_iload_n (pc := 59) dX10_wake_59 rfl rfl ?_
    refine tz_aS (pc := 60) (z := x) dX10_wake_60 a_149 rfl (by omega) (by omega) ?_
    refine tz_aload_n (pc := 61) dX10_wake_61 rfl rfl ?_
    refine tz_fR (pc := 62) dX10_wake_62 fl_X10_24 r_145_5 ?_
    refine tz_iload_n (pc := 65) dX10_wake_65 rfl rfl ?_
    refine tz_iconst (pc := 66) dX10_wake_66 ?_
    refine tz_aS (pc := 67) (z := x) dX10_wake_67 a_150 rfl (by omega) (by decide) ?_
    refine tz_aload_n (pc := 68) dX10_wake_68 rfl rfl ?_
    refine tz_fR (pc := 69) dX10_wake_69 fl_X10_36 r_145_9 ?_
    refine tz_iload_n (pc := 72) dX10_wake_72 rfl rfl ?_
    refine tz_iconst (pc := 73) dX10_wake_73 ?_
    refine tz_aS (pc := 74) (z := x) dX10_wake_74 a_154 rfl (by omega) (by decide) ?_
    exact tz_vret (pc := 75) dX10_wake_75 rfl (Nat.le_of_ble_eq_true rfl) (Nat.le_of_ble_eq_true rfl) ⟨Nat.le_refl _, Nat.le_add_right _ _⟩ ⟨rfl, ⟨hU.wake hx (by omega), (zOf.up rfl (zOf.up rfl (zOf.up rfl (zOf.up rfl (zOf.up rfl (zOf.up rfl zOf.rf))))))⟩⟩
  · refine tz_iconst (pc := 16) dX10_wake_16 ?_
    refine tz_goto (pc := 17) (tgt := 21) dX10_wake_17 (by decide) ?_
    refine tz_istore_n (pc := 21) (L2 := [_, _, _]) dX10_wake_21 rfl (by decide) rfl ?_
    refine tz_aload_n (pc := 22) dX10_wake_22 rfl rfl ?_
    refine tz_fR (pc := 23) dX10_wake_23 fl_X10_11 r_145_1 ?_
    refine tz_iload_n (pc := 26) dX10_wake_26 rfl rfl ?_
    refine tz_aload_n (pc := 27) dX10_wake_27 rfl rfl ?_
    refine tz_fI (pc := 28) (kz := 10) (v := (J 145 10)) dX10_wake_28 fl_X10_39 i_145_10 rfl rfl (fun r_28 => ?_)
    refine tz_aS (pc := 31) (z := x) dX10_wake_31 a_146 rfl (by omega) (by omega) ?_
    refine tz_aload_n (pc := 32) dX10_wake_32 rfl rfl ?_
    refine tz_fR (pc := 33) dX10_wake_33 fl_X10_15 r_145_2 ?_
    refine tz_iload_n (pc := 36) dX10_wake_36 rfl rfl ?_
    refine tz_iload_n (pc := 37) dX10_wake_37 rfl rfl ?_
    refine tz_aS (pc := 38) (z := x) dX10_wake_38 a_147 rfl (by omega) (by omega) ?_
    refine tz_aload_n (pc := 39) dX10_wake_39 rfl rfl ?_
    refine tz_fR (pc := 40) dX10_wake_40 fl_X10_18 r_145_3 ?_
    refine tz_iload_n (pc := 43) dX10_wake_43 rfl rfl ?_
    refine tz_iload_n (pc := 44) dX10_wake_44 rfl rfl ?_
    refine tz_if_eqF (pc := 45) (tgt := 52) (by decide) dX10_wake_45 (by decide) (by decide) ?_
    refine tz_iconst (pc := 48) dX10_wake_48 ?_
    refine tz_goto (pc := 49) (tgt := 53) dX10_wake_49 (by decide) ?_
    refine tz_aS (pc := 53) (z := x) dX10_wake_53 a_148 rfl (by omega) (by decide) ?_
    refine tz_aload_n (pc := 54) dX10_wake_54 rfl rfl ?_
    refine tz_fR (pc := 55) dX10_wake_55 fl_X10_21 r_145_4 ?_
    refine tz_iload_n (pc := 58) dX10_wake_58 rfl rfl ?_
    refine tz_iload_n (pc := 59) dX10_wake_59 rfl rfl ?_
    refine tz_aS (pc := 60) (z := x) dX10_wake_60 a_149 rfl (by omega) (by omega) ?_
    refine tz_aload_n (pc := 61) dX10_wake_61 rfl rfl ?_
    refine tz_fR (pc := 62) dX10_wake_62 fl_X10_24 r_145_5 ?_
    refine tz_iload_n (pc := 65) dX10_wake_65 rfl rfl ?_
    refine tz_iconst (pc := 66) dX10_wake_66 ?_
    refine tz_aS (pc := 67) (z := x) dX10_wake_67 a_150 rfl (by omega) (by decide) ?_
    refine tz_aload_n (pc := 68) dX10_wake_68 rfl rfl ?_
    refine tz_fR (pc := 69) dX10_wake_69 fl_X10_36 r_145_9 ?_
    refine tz_iload_n (pc := 72) dX10_wake_72 rfl rfl ?_
    refine tz_iconst (pc := 73) dX10_wake_73 ?_
    refine tz_aS (pc := 74) (z := x) dX10_wake_74 a_154 rfl (by omega) (by decide) ?_
    exact tz_vret (pc := 75) dX10_wake_75 rfl (Nat.le_of_ble_eq_true rfl) (Nat.le_of_ble_eq_true rfl) ⟨Nat.le_refl _, Nat.le_add_right _ _⟩ ⟨rfl, ⟨hU.wake hx (by omega), (zOf.up rfl (zOf.up rfl (zOf.up rfl (zOf.up rfl (zOf.up rfl (zOf.up rfl zOf.rf))))))⟩⟩

set_option maxHeartbeats 4000000 in
set_option maxRecDepth 100000 in
theorem c_top {l : Launch} {G : tb_G} (hl : l.stackTraces = false) (n : Nat) (J : zJ) (x : Int) (hr_x : -2147483648 ≤ x ∧ x < 2147483648) (b m : Int) (hm : 0 ≤ m ∧ m ≤ 400) (hx : nd b m x) (hU : UI J b m) : tz_Ok l G M_X10_topOf 2 0 0 [.ref 145, zi x] n J (zqi (fun z J' => UW J' J b m ∧ (nd b m z ∧ J' 146 z = J 145 10) ∧ zOf (zbut [146, 147, 148, 149, 150, 154]) J' J)) zN := by
  refine tz_Ok.of hl (by decide +kernel) rfl (tb_c1 rfl) (Nat.le_of_ble_eq_true rfl) ?_
  show tz_At l G M_X10_topOf (tb_rm 2 0 0) none (tb_ZM G 0 0 (zQ n 0 (zqi (fun z J' => UW J' J b m ∧ (nd b m z ∧ J' 146 z = J 145 10) ∧ zOf (zbut [146, 147, 148, 149, 150, 154]) J' J))) (zX n 0 zN)) 0 0 n J 0 [some (.ref 145), some (zi x), none, none] []
  have ht := hx.ix hm
  have hx2 := hx.rg hm
  refine tz_aload_n (pc := 0) dX10_topOf_0 rfl rfl ?_
  refine tz_fR (pc := 1) dX10_topOf_1 fl_X10_11 r_145_1 ?_
  refine tz_iload_n (pc := 4) dX10_topOf_4 rfl rfl ?_
  refine tz_aL (pc := 5) (z := x) (v := (J 146 x)) dX10_topOf_5 a_146 rfl (by omega) rfl (fun r_5 => ?_)
  refine tz_aload_n (pc := 6) dX10_topOf_6 rfl rfl ?_
  refine tz_fI (pc := 7) (kz := 10) (v := (J 145 10)) dX10_topOf_7 fl_X10_39 i_145_10 rfl rfl (fun r_7 => ?_)
  refine tz_icmp_eq (pc := 10) (tgt := 18) dX10_topOf_10 (by decide) (by omega) (by omega) (fun h_10 => ?_) (fun h_10 => ?_)
  · refine tz_iload_n (pc := 18) dX10_topOf_18 rfl rfl ?_
    refine tz_istore_n (pc := 19) (L2 := [_, _, _, _]) dX10_topOf_19 rfl (by decide) rfl ?_
    refine tz_iconst (pc := 20) dX10_topOf_20 ?_
    refine tz_istore_n (pc := 21) (L2 := [_, _, _, _]) dX10_topOf_21 rfl (by decide) rfl ?_
    have loop22 : ∀ (f9 : Nat) (x1 : Int) (k : Int) (J1 : zJ), ((800 - k).toNat) < f9 → (0 ≤ k ∧ k ≤ 800) → (UW J1 J b m) → (nd b m x1) → (J1 146 x1 = J 145 10) → (zOf (zbut [146, 147, 148, 149, 150, 154]) J1 J) → tz_At l G M_X10_topOf (tb_rm 2 0 0) none (tb_ZM G 0 0 (zQ n 0 (zqi (fun z J' => UW J' J b m ∧ (nd b m z ∧ J' 146 z = J 145 10) ∧ zOf (zbut [146, 147, 148, 149, 150, 154]) J' J))) (zX n 0 zN)) 0 0 n J1 22 [some (.ref 145), some (zi x), some (zi x1), some (zi k)] [] := by
      intro f9
      induction f9 with
      | zero => intro x1 k J1 hm9; exact absurd hm9 (Nat.not_lt_zero _)
      | succ f9 ih22 =>
        intro x1 k J1 hm22 hk hw hn ha hf
        have h1 := hw.at hm hn ha
        have h1r := hn.rg hm
        have h2 := hw.at hm h1.2.1.1 (by have := h1.2.1.2; rw [hw.2.1] at this; exact this)
        have h2r := h1.2.1.1.rg hm
        have h3r := h2.2.1.1.rg hm
        refine tz_iload_n (pc := 22) dX10_topOf_22 rfl rfl ?_
        refine tz_sipush (pc := 23) dX10_topOf_23 (by decide) ?_
        refine tz_icmp_ge (pc := 26) (tgt := 69) dX10_topOf_26 (by decide) (by omega) (by decide) (fun h_26 => ?_) (fun h_26 => ?_)
        · refine tz_iload_n (pc := 69) dX10_topOf_69 rfl rfl ?_
          exact tz_iret (pc := 70) (z := x1) dX10_topOf_70 rfl (Nat.le_of_ble_eq_true rfl) (Nat.le_of_ble_eq_true rfl) ⟨Nat.le_refl _, Nat.le_add_right _ _⟩ ⟨_, rfl, (by omega), ⟨hw, ⟨hn, ha⟩, hf⟩⟩
        · refine tz_aload_n (pc := 29) dX10_topOf_29 rfl rfl ?_
          refine tz_fR (pc := 30) dX10_topOf_30 fl_X10_15 r_145_2 ?_
          refine tz_iload_n (pc := 33) dX10_topOf_33 rfl rfl ?_
          refine tz_aL (pc := 34) (z := x1) (v := (J1 147 x1)) dX10_topOf_34 a_147 rfl (by omega) rfl (fun r_34 => ?_)
          refine tz_iload_n (pc := 35) dX10_topOf_35 rfl rfl ?_
          refine tz_icmp_eq (pc := 36) (tgt := 69) dX10_topOf_36 (by decide) (by omega) (by omega) (fun h_36 => ?_) (fun h_36 => ?_)
          · refine tz_iload_n (pc := 69) dX10_topOf_69 rfl rfl ?_
            exact tz_iret (pc := 70) (z := x1) dX10_topOf_70 rfl (Nat.le_of_ble_eq_true rfl) (Nat.le_of_ble_eq_true rfl) ⟨Nat.le_refl _, Nat.le_add_right _ _⟩ ⟨_, rfl, (by omega), ⟨hw, ⟨hn, ha⟩, hf⟩⟩
          · refine tz_aload_n (pc := 39) dX10_topOf_39 rfl rfl ?_
            refine tz_fR (pc := 40) dX10_topOf_40 fl_X10_15 r_145_2 ?_
            refine tz_iload_n (pc := 43) dX10_topOf_43 rfl rfl ?_
            refine tz_aload_n (pc := 44) dX10_topOf_44 rfl rfl ?_
            refine tz_fR (pc := 45) dX10_topOf_45 fl_X10_15 r_145_2 ?_
            refine tz_aload_n (pc := 48) dX10_topOf_48 rfl rfl ?_
            refine tz_fR (pc := 49) dX10_topOf_49 fl_X10_15 r_145_2 ?_
            refine tz_iload_n (pc := 52) dX10_topOf_52 rfl rfl ?_
            refine tz_aL (pc := 53) (z := x1) (v := (J1 147 x1)) dX10_topOf_53 a_147 rfl (by omega) rfl (fun r_53 => ?_)
            refine tz_aL (pc := 54) (z := (J1 147 x1)) (v := (J1 147 (J1 147 x1))) dX10_topOf_54 a_147 rfl (by omega) rfl (fun r_54 => ?_)
            refine tz_aS (pc := 55) (z := x1) dX10_topOf_55 a_147 rfl (by omega) (by omega) ?_
            refine tz_aload_n (pc := 56) dX10_topOf_56 rfl rfl ?_
            refine tz_fR (pc := 57) dX10_topOf_57 fl_X10_15 r_145_2 ?_
            refine tz_iload_n (pc := 60) dX10_topOf_60 rfl rfl ?_
            refine tz_aL (pc := 61) (z := x1) (v := (J1 147 (J1 147 x1))) dX10_topOf_61 a_147 rfl (by omega) (by simp [zup]) (fun r_61 => ?_)
            refine tz_istore_n (pc := 62) (L2 := [_, _, _, _]) dX10_topOf_62 rfl (by decide) rfl ?_
            refine tz_iinc (pc := 63) (z := k + 1) (L2 := [_, _, _, _]) dX10_topOf_63 rfl (by omega) rfl ?_
            refine tz_goto (pc := 66) (tgt := 22) dX10_topOf_66 (by decide) ?_
            exact ih22 _ (k + 1) _ (by omega) (by omega) (hw.p7 h2.2.1.1 (by have := h2.2.1.2; rw [hw.2.1] at this; exact this)) h2.2.1.1 (by have := h2.2.1.2; rw [hw.2.1] at this; exact this) (zOf.up rfl hf)
    exact loop22 _ _ 0 _ (Nat.lt_succ_self _) (by omega) (UW.rf hU) hx h_10 zOf.rf
  · refine tz_aload_n (pc := 13) dX10_topOf_13 rfl rfl ?_
    refine tz_iload_n (pc := 14) dX10_topOf_14 rfl rfl ?_
    refine tz_cV (pc := 15) (c_wake hl n _ _ (by omega) b m hm hx hU) vl_X10_80 dX10_topOf_15 o_145 rfl rfl (Nat.le_of_ble_eq_true rfl) ⟨(Nat.le_of_ble_eq_true rfl), (Nat.le_of_ble_eq_true rfl)⟩ rfl rfl (Nat.le_of_ble_eq_true rfl) (Nat.le_of_ble_eq_true rfl) (fun r9 J_15 hq9 => ?_)
    obtain ⟨rfl, ⟨w1, w2⟩, w3⟩ := hq9
    refine tz_iload_n (pc := 18) dX10_topOf_18 rfl rfl ?_
    refine tz_istore_n (pc := 19) (L2 := [_, _, _, _]) dX10_topOf_19 rfl (by decide) rfl ?_
    refine tz_iconst (pc := 20) dX10_topOf_20 ?_
    refine tz_istore_n (pc := 21) (L2 := [_, _, _, _]) dX10_topOf_21 rfl (by decide) rfl ?_
    have loop22 : ∀ (f9 : Nat) (x1 : Int) (k : Int) (J1 : zJ), ((800 - k).toNat) < f9 → (0 ≤ k ∧ k ≤ 800) → (UW J1 J b m) → (nd b m x1) → (J1 146 x1 = J 145 10) → (zOf (zbut [146, 147, 148, 149, 150, 154]) J1 J) → tz_At l G M_X10_topOf (tb_rm 2 0 0) none (tb_ZM G 0 0 (zQ n 0 (zqi (fun z J' => UW J' J b m ∧ (nd b m z ∧ J' 146 z = J 145 10) ∧ zOf (zbut [146, 147, 148, 149, 150, 154]) J' J))) (zX n 0 zN)) 0 0 n J1 22 [some (.ref 145), some (zi x), some (zi x1), some (zi k)] [] := by
      intro f9
      induction f9 with
      | zero => intro x1 k J1 hm9; exact absurd hm9 (Nat.not_lt_zero _)
      | succ f9 ih22 =>
        intro x1 k J1 hm22 hk hw hn ha hf
        have h1 := hw.at hm hn ha
        have h1r := hn.rg hm
        have h2 := hw.at hm h1.2.1.1 (by have := h1.2.1.2; rw [hw.2.1] at this; exact this)
        have h2r := h1.2.1.1.rg hm
        have h3r := h2.2.1.1.rg hm
        refine tz_iload_n (pc := 22) dX10_topOf_22 rfl rfl ?_
        refine tz_sipush (pc := 23) dX10_topOf_23 (by decide) ?_
        refine tz_icmp_ge (pc := 26) (tgt := 69) dX10_topOf_26 (by decide) (by omega) (by decide) (fun h_26 => ?_) (fun h_26 => ?_)
        · refine tz_iload_n (pc := 69) dX10_topOf_69 rfl rfl ?_
          exact tz_iret (pc := 70) (z := x1) dX10_topOf_70 rfl (Nat.le_of_ble_eq_true rfl) (Nat.le_of_ble_eq_true rfl) ⟨Nat.le_refl _, Nat.le_add_right _ _⟩ ⟨_, rfl, (by omega), ⟨hw, ⟨hn, ha⟩, hf⟩⟩
        · refine tz_aload_n (pc := 29) dX10_topOf_29 rfl rfl ?_
          refine tz_fR (pc := 30) dX10_topOf_30 fl_X10_15 r_145_2 ?_
          refine tz_iload_n (pc := 33) dX10_topOf_33 rfl rfl ?_
          refine tz_aL (pc := 34) (z := x1) (v := (J1 147 x1)) dX10_topOf_34 a_147 rfl (by omega) rfl (fun r_34 => ?_)
          refine tz_iload_n (pc := 35) dX10_topOf_35 rfl rfl ?_
          refine tz_icmp_eq (pc := 36) (tgt := 69) dX10_topOf_36 (by decide) (by omega) (by omega) (fun h_36 => ?_) (fun h_36 => ?_)
          · refine tz_iload_n (pc := 69) dX10_topOf_69 rfl rfl ?_
            exact tz_iret (pc := 70) (z := x1) dX10_topOf_70 rfl (Nat.le_of_ble_eq_true rfl) (Nat.le_of_ble_eq_true rfl) ⟨Nat.le_refl _, Nat.le_add_right _ _⟩ ⟨_, rfl, (by omega), ⟨hw, ⟨hn, ha⟩, hf⟩⟩
          · refine tz_aload_n (pc := 39) dX10_topOf_39 rfl rfl ?_
            refine tz_fR (pc := 40) dX10_topOf_40 fl_X10_15 r_145_2 ?_
            refine tz_iload_n (pc := 43) dX10_topOf_43 rfl rfl ?_
            refine tz_aload_n (pc := 44) dX10_topOf_44 rfl rfl ?_
            refine tz_fR (pc := 45) dX10_topOf_45 fl_X10_15 r_145_2 ?_
            refine tz_aload_n (pc := 48) dX10_topOf_48 rfl rfl ?_
            refine tz_fR (pc := 49) dX10_topOf_49 fl_X10_15 r_145_2 ?_
            refine tz_iload_n (pc := 52) dX10_topOf_52 rfl rfl ?_
            refine tz_aL (pc := 53) (z := x1) (v := (J1 147 x1)) dX10_topOf_53 a_147 rfl (by omega) rfl (fun r_53 => ?_)
            refine tz_aL (pc := 54) (z := (J1 147 x1)) (v := (J1 147 (J1 147 x1))) dX10_topOf_54 a_147 rfl (by omega) rfl (fun r_54 => ?_)
            refine tz_aS (pc := 55) (z := x1) dX10_topOf_55 a_147 rfl (by omega) (by omega) ?_
            refine tz_aload_n (pc := 56) dX10_topOf_56 rfl rfl ?_
            refine tz_fR (pc := 57) dX10_topOf_57 fl_X10_15 r_145_2 ?_
            refine tz_iload_n (pc := 60) dX10_topOf_60 rfl rfl ?_
            refine tz_aL (pc := 61) (z := x1) (v := (J1 147 (J1 147 x1))) dX10_topOf_61 a_147 rfl (by omega) (by simp [zup]) (fun r_61 => ?_)
            refine tz_istore_n (pc := 62) (L2 := [_, _, _, _]) dX10_topOf_62 rfl (by decide) rfl ?_
            refine tz_iinc (pc := 63) (z := k + 1) (L2 := [_, _, _, _]) dX10_topOf_63 rfl (by omega) rfl ?_
            refine tz_goto (pc := 66) (tgt := 22) dX10_topOf_66 (by decide) ?_
            exact ih22 _ (k + 1) _ (by omega) (by omega) (hw.p7 h2.2.1.1 (by have := h2.2.1.2; rw [hw.2.1] at this; exact this)) h2.2.1.1 (by have := h2.2.1.2; rw [hw.2.1] at this; exact this) (zOf.up rfl hf)
    exact loop22 _ _ 0 _ (Nat.lt_succ_self _) (by omega) w1 hx w2 w3

set_option maxHeartbeats 4000000 in
set_option maxRecDepth 100000 in
theorem c_addPair {l : Launch} {G : tb_G} (hl : l.stackTraces = false) (n : Nat) (J : zJ) (x : Int) (y : Int) (hr_x : -2147483648 ≤ x ∧ x < 2147483648) (hr_y : -2147483648 ≤ y ∧ y < 2147483648) (b m : Int) (hP : PI J b m) (hx : nd b m x) (hy : nd b m y) : tz_Ok l G M_X10_addPair 0 0 0 [.ref 145, zi x, zi y] n J (zqv (fun J' => PI J' b m ∧ J' 145 10 = J 145 10 ∧ zOf (zbut [145, 151, 152]) J' J)) zN := by
  refine tz_Ok.of hl (by decide +kernel) rfl (tb_c1 rfl) (Nat.le_of_ble_eq_true rfl) ?_
  show tz_At l G M_X10_addPair (tb_rm 0 0 0) none (tb_ZM G 0 0 (zQ n 0 (zqv (fun J' => PI J' b m ∧ J' 145 10 = J 145 10 ∧ zOf (zbut [145, 151, 152]) J' J))) (zX n 0 zN)) 0 0 n J 0 [some (.ref 145), some (zi x), some (zi y)] []
  have hp := hP.1
  refine tz_aload_n (pc := 0) dX10_addPair_0 rfl rfl ?_
  refine tz_fI (pc := 1) (kz := 11) (v := (J 145 11)) dX10_addPair_1 fl_X10_43 i_145_11 rfl rfl (fun r_1 => ?_)
  refine tz_aload_n (pc := 4) dX10_addPair_4 rfl rfl ?_
  refine tz_fR (pc := 5) dX10_addPair_5 fl_X10_27 r_145_6 ?_
  refine tz_aN (pc := 8) (lz := 2401) dX10_addPair_8 a_151 rfl ?_
  refine tz_icmp_ge (pc := 9) (tgt := 42) dX10_addPair_9 (by decide) (by omega) (by decide) (fun h_9 => ?_) (fun h_9 => ?_)
  · exact tz_vret (pc := 42) dX10_addPair_42 rfl (Nat.le_of_ble_eq_true rfl) (Nat.le_of_ble_eq_true rfl) ⟨Nat.le_refl _, Nat.le_add_right _ _⟩ ⟨rfl, (by first | exact ⟨hP, rfl, zOf.rf⟩ | exact ⟨hP.push hx hy (by omega), rfl, zOf.up rfl (zOf.up rfl (zOf.up rfl zOf.rf))⟩)⟩
  · refine tz_aload_n (pc := 12) dX10_addPair_12 rfl rfl ?_
    refine tz_fR (pc := 13) dX10_addPair_13 fl_X10_27 r_145_6 ?_
    refine tz_aload_n (pc := 16) dX10_addPair_16 rfl rfl ?_
    refine tz_fI (pc := 17) (kz := 11) (v := (J 145 11)) dX10_addPair_17 fl_X10_43 i_145_11 rfl rfl (fun r_17 => ?_)
    refine tz_iload_n (pc := 20) dX10_addPair_20 rfl rfl ?_
    refine tz_aS (pc := 21) (z := (J 145 11)) dX10_addPair_21 a_151 rfl (by omega) (by omega) ?_
    refine tz_aload_n (pc := 22) dX10_addPair_22 rfl rfl ?_
    refine tz_fR (pc := 23) dX10_addPair_23 fl_X10_30 r_145_7 ?_
    refine tz_aload_n (pc := 26) dX10_addPair_26 rfl rfl ?_
    refine tz_fI (pc := 27) (kz := 11) (v := (J 145 11)) dX10_addPair_27 fl_X10_43 i_145_11 rfl rfl (fun r_27 => ?_)
    refine tz_iload_n (pc := 30) dX10_addPair_30 rfl rfl ?_
    refine tz_aS (pc := 31) (z := (J 145 11)) dX10_addPair_31 a_152 rfl (by omega) (by omega) ?_
    refine tz_aload_n (pc := 32) dX10_addPair_32 rfl rfl ?_
    refine tz_dup (pc := 33) dX10_addPair_33 rfl ?_
    refine tz_fI (pc := 34) (kz := 11) (v := (J 145 11)) dX10_addPair_34 fl_X10_43 i_145_11 rfl rfl (fun r_34 => ?_)
    refine tz_iconst (pc := 37) dX10_addPair_37 ?_
    refine tz_iadd (pc := 38) (v := (J 145 11) + 1) dX10_addPair_38 rfl ?_
    refine tz_pI (pc := 39) (kz := 11) dX10_addPair_39 fl_X10_43 i_145_11 rfl rfl (by omega) ?_
    exact tz_vret (pc := 42) dX10_addPair_42 rfl (Nat.le_of_ble_eq_true rfl) (Nat.le_of_ble_eq_true rfl) ⟨Nat.le_refl _, Nat.le_add_right _ _⟩ ⟨rfl, (by first | exact ⟨hP, rfl, zOf.rf⟩ | exact ⟨hP.push hx hy (by omega), rfl, zOf.up rfl (zOf.up rfl (zOf.up rfl zOf.rf))⟩)⟩

set_option maxHeartbeats 4000000 in
set_option maxRecDepth 100000 in
theorem c_lesser {l : Launch} {G : tb_G} (hl : l.stackTraces = false) (n : Nat) (J : zJ) (x : Int) (y : Int) (hr_x : -2147483648 ≤ x ∧ x < 2147483648) (hr_y : -2147483648 ≤ y ∧ y < 2147483648) (b m : Int) (hm : 0 ≤ m ∧ m ≤ 400) (hx : nd b m x) (hy : nd b m y) : tz_Ok l G M_X10_lesser 1 0 0 [.ref 145, zi x, zi y] n J (zqi (fun z J' => J = J' ∧ (z = x ∨ z = y))) zN := by
  refine tz_Ok.of hl (by decide +kernel) rfl (tb_c1 rfl) (Nat.le_of_ble_eq_true rfl) ?_
  show tz_At l G M_X10_lesser (tb_rm 1 0 0) none (tb_ZM G 0 0 (zQ n 0 (zqi (fun z J' => J = J' ∧ (z = x ∨ z = y)))) (zX n 0 zN)) 0 0 n J 0 [some (.ref 145), some (zi x), some (zi y)] []
  have ht := hx.ix hm
  have hx2 := hx.rg hm
  have hu := hy.ix hm
  have hy2 := hy.rg hm
  refine tz_aload_n (pc := 0) dX10_lesser_0 rfl rfl ?_
  refine tz_fR (pc := 1) dX10_lesser_1 fl_X10_46 r_145_0 ?_
  refine tz_fR (pc := 4) dX10_lesser_4 fl_X10_84 r_6_1 ?_
  refine tz_aload_n (pc := 7) dX10_lesser_7 rfl rfl ?_
  refine tz_iload_n (pc := 8) dX10_lesser_8 rfl rfl ?_
  refine tz_cV (pc := 9) (c_uTerm hl n _ _ (by omega) (by omega)) vl_X10_68 dX10_lesser_9 o_145 rfl rfl (Nat.le_of_ble_eq_true rfl) ⟨(Nat.le_of_ble_eq_true rfl), (Nat.le_of_ble_eq_true rfl)⟩ rfl rfl (Nat.le_of_ble_eq_true rfl) (Nat.le_of_ble_eq_true rfl) (fun r9 J_9 hq9 => ?_)
  obtain ⟨z_9, rfl, hz_9, rfl, rfl⟩ := hq9
  refine tz_aL (pc := 12) (z := (tm x)) (v := (J 7 (tm x))) dX10_lesser_12 a_7 rfl (by omega) rfl (fun r_12 => ?_)
  refine tz_iconst (pc := 13) dX10_lesser_13 ?_
  refine tz_ixor (pc := 14) (v := zxor (J 7 (tm x)) (-1)) dX10_lesser_14 rfl ?_
  refine tz_aload_n (pc := 15) dX10_lesser_15 rfl rfl ?_
  refine tz_fR (pc := 16) dX10_lesser_16 fl_X10_46 r_145_0 ?_
  refine tz_fR (pc := 19) dX10_lesser_19 fl_X10_84 r_6_1 ?_
  refine tz_aload_n (pc := 22) dX10_lesser_22 rfl rfl ?_
  refine tz_iload_n (pc := 23) dX10_lesser_23 rfl rfl ?_
  refine tz_cV (pc := 24) (c_uTerm hl n _ _ (by omega) (by omega)) vl_X10_68 dX10_lesser_24 o_145 rfl rfl (Nat.le_of_ble_eq_true rfl) ⟨(Nat.le_of_ble_eq_true rfl), (Nat.le_of_ble_eq_true rfl)⟩ rfl rfl (Nat.le_of_ble_eq_true rfl) (Nat.le_of_ble_eq_true rfl) (fun r9 J_24 hq9 => ?_)
  obtain ⟨z_24, rfl, hz_24, rfl, rfl⟩ := hq9
  refine tz_aL (pc := 27) (z := (tm y)) (v := (J 7 (tm y))) dX10_lesser_27 a_7 rfl (by omega) rfl (fun r_27 => ?_)
  refine tz_iconst (pc := 28) dX10_lesser_28 ?_
  refine tz_ixor (pc := 29) (v := zxor (J 7 (tm y)) (-1)) dX10_lesser_29 rfl ?_
  refine tz_icmp_gt (pc := 30) (tgt := 37) dX10_lesser_30 (by decide) (zxor_rg _ _) (zxor_rg _ _) (fun h_30 => ?_) (fun h_30 => ?_)
  · refine tz_iload_n (pc := 37) dX10_lesser_37 rfl rfl ?_
    exact tz_iret (pc := 38) (z := y) dX10_lesser_38 rfl (Nat.le_of_ble_eq_true rfl) (Nat.le_of_ble_eq_true rfl) ⟨Nat.le_refl _, Nat.le_add_right _ _⟩ ⟨_, rfl, (by omega), ⟨rfl, by omega⟩⟩
  · refine tz_iload_n (pc := 33) dX10_lesser_33 rfl rfl ?_
    refine tz_goto (pc := 34) (tgt := 38) dX10_lesser_34 (by decide) ?_
    exact tz_iret (pc := 38) (z := x) dX10_lesser_38 rfl (Nat.le_of_ble_eq_true rfl) (Nat.le_of_ble_eq_true rfl) ⟨Nat.le_refl _, Nat.le_add_right _ _⟩ ⟨_, rfl, (by omega), ⟨rfl, by omega⟩⟩

set_option maxHeartbeats 4000000 in
set_option maxRecDepth 100000 in
theorem c_joined {l : Launch} {G : tb_G} (hl : l.stackTraces = false) (n : Nat) (J : zJ) (x : Int) (y : Int) (hr_x : -2147483648 ≤ x ∧ x < 2147483648) (hr_y : -2147483648 ≤ y ∧ y < 2147483648) (b m : Int) (C : CT J m) (hU : UI J b m) (hP : PI J b m) (hx : nd b m x) (hy : nd b m y) (ax : J 146 x = J 145 10) (ay : J 146 y = J 145 10) : tz_Ok l G M_X10_joined 2 0 0 [.ref 145, zi x, zi y] n J (zqi (fun z J' => UW J' J b m ∧ PI J' b m ∧ (z = 0 ∨ z = 1) ∧ zOf (zbut [145, 147, 148, 149, 151, 152]) J' J)) zN := by
  refine tz_Ok.of hl (by decide +kernel) rfl (tb_c1 rfl) (Nat.le_of_ble_eq_true rfl) ?_
  show tz_At l G M_X10_joined (tb_rm 2 0 0) none (tb_ZM G 0 0 (zQ n 0 (zqi (fun z J' => UW J' J b m ∧ PI J' b m ∧ (z = 0 ∨ z = 1) ∧ zOf (zbut [145, 147, 148, 149, 151, 152]) J' J))) (zX n 0 zN)) 0 0 n J 0 [some (.ref 145), some (zi x), some (zi y), none, none, none] []
  have hb := C.told
  have hm := hb.2
  have hx2 := hx.rg hm
  have hy2 := hy.rg hm
  have ux := (UW.rf hU).at hm hx ax
  have uy := (UW.rf hU).at hm hy ay
  have hp9 := ux.2.2.1
  have hq9 := uy.2.2.1
  refine tz_iload_n (pc := 0) dX10_joined_0 rfl rfl ?_
  refine tz_iload_n (pc := 1) dX10_joined_1 rfl rfl ?_
  refine tz_icmp_ne (pc := 2) (tgt := 7) dX10_joined_2 (by decide) (by omega) (by omega) (fun h_2 => ?_) (fun h_2 => ?_)
  · refine tz_aload_n (pc := 7) dX10_joined_7 rfl rfl ?_
    refine tz_fR (pc := 8) dX10_joined_8 fl_X10_18 r_145_3 ?_
    refine tz_iload_n (pc := 11) dX10_joined_11 rfl rfl ?_
    refine tz_aL (pc := 12) (z := x) (v := (J 148 x)) dX10_joined_12 a_148 rfl (by omega) rfl (fun r_12 => ?_)
    refine tz_istore_n (pc := 13) (L2 := [_, _, _, _, _, _]) dX10_joined_13 rfl (by decide) rfl ?_
    refine tz_aload_n (pc := 14) dX10_joined_14 rfl rfl ?_
    refine tz_fR (pc := 15) dX10_joined_15 fl_X10_18 r_145_3 ?_
    refine tz_iload_n (pc := 18) dX10_joined_18 rfl rfl ?_
    refine tz_aL (pc := 19) (z := y) (v := (J 148 y)) dX10_joined_19 a_148 rfl (by omega) rfl (fun r_19 => ?_)
    refine tz_istore (pc := 20) (L2 := [_, _, _, _, _, _]) dX10_joined_20 (by decide) rfl ?_
    refine tz_aload_n (pc := 22) dX10_joined_22 rfl rfl ?_
    refine tz_fR (pc := 23) dX10_joined_23 fl_X10_15 r_145_2 ?_
    refine tz_iload_n (pc := 26) dX10_joined_26 rfl rfl ?_
    refine tz_iload_n (pc := 27) dX10_joined_27 rfl rfl ?_
    refine tz_aS (pc := 28) (z := y) dX10_joined_28 a_147 rfl (by omega) (by omega) ?_
    refine tz_aload_n (pc := 29) dX10_joined_29 rfl rfl ?_
    refine tz_fR (pc := 30) dX10_joined_30 fl_X10_18 r_145_3 ?_
    refine tz_iload_n (pc := 33) dX10_joined_33 rfl rfl ?_
    refine tz_iload_n (pc := 34) dX10_joined_34 rfl rfl ?_
    refine tz_iconst (pc := 35) dX10_joined_35 ?_
    refine tz_icmp_ne (pc := 36) (tgt := 44) dX10_joined_36 (by decide) (by omega) (by decide) (fun h_36 => ?_) (fun h_36 => ?_)
    · refine tz_iload_n (pc := 44) dX10_joined_44 rfl rfl ?_
      refine tz_aS (pc := 45) (z := x) dX10_joined_45 a_148 rfl (by omega) (by omega) ?_
      refine tz_iload_n (pc := 46) dX10_joined_46 rfl rfl ?_
      refine tz_iconst (pc := 47) dX10_joined_47 ?_
      refine tz_icmp_ne (pc := 48) (tgt := 79) dX10_joined_48 (by decide) (by omega) (by decide) (fun h_48 => ?_) (fun h_48 => ?_)
      · refine tz_iload_n (pc := 79) dX10_joined_79 rfl rfl ?_
        refine tz_iconst (pc := 80) dX10_joined_80 ?_
        refine tz_icmp_eq (pc := 81) (tgt := 90) dX10_joined_81 (by decide) (by omega) (by decide) (fun h_81 => ?_) (fun h_81 => ?_)
        · refine tz_iconst (pc := 90) dX10_joined_90 ?_
          exact tz_zret (pc := 91) (z := 1) dX10_joined_91 rfl (Or.inr rfl) (Nat.le_of_ble_eq_true rfl) (Nat.le_of_ble_eq_true rfl) ⟨Nat.le_refl _, Nat.le_add_right _ _⟩ ⟨_, rfl, (by decide), ⟨(UW.p8 (UW.p7 (UW.rf hU) hx ax) (by first | exact hq9 | exact hp9)), hP.of rfl rfl rfl, by omega, (zOf.up rfl (zOf.up rfl zOf.rf))⟩⟩
        · refine tz_iload (pc := 84) dX10_joined_84 rfl ?_
          refine tz_iconst (pc := 86) dX10_joined_86 ?_
          refine tz_icmp_ne (pc := 87) (tgt := 92) dX10_joined_87 (by decide) (by omega) (by decide) (fun h_87 => ?_) (fun h_87 => ?_)
          · have hp0 := hp9.resolve_left (by omega)
            have hq0 := hq9.resolve_left (by omega)
            have hpr := hp0.rg hm
            have hqr := hq0.rg hm
            have hpt := hp0.ix hm
            have hqt := hq0.ix hm
            refine tz_aload_n (pc := 92) dX10_joined_92 rfl rfl ?_
            refine tz_fR (pc := 93) dX10_joined_93 fl_X10_46 r_145_0 ?_
            refine tz_fR (pc := 96) dX10_joined_96 fl_X10_84 r_6_1 ?_
            refine tz_aload_n (pc := 99) dX10_joined_99 rfl rfl ?_
            refine tz_iload_n (pc := 100) dX10_joined_100 rfl rfl ?_
            refine tz_cV (pc := 101) (c_uTerm hl n _ _ (by omega) (by omega)) vl_X10_68 dX10_joined_101 o_145 rfl rfl (Nat.le_of_ble_eq_true rfl) ⟨(Nat.le_of_ble_eq_true rfl), (Nat.le_of_ble_eq_true rfl)⟩ rfl rfl (Nat.le_of_ble_eq_true rfl) (Nat.le_of_ble_eq_true rfl) (fun r9 J_101 hq9 => ?_)
            obtain ⟨z_101, rfl, hz_101, rfl, rfl⟩ := hq9
            refine tz_aL (pc := 104) (z := (tm (J 148 x))) (v := (J 7 (tm (J 148 x)))) dX10_joined_104 a_7 rfl (by omega) rfl (fun r_104 => ?_)
            refine tz_aload_n (pc := 105) dX10_joined_105 rfl rfl ?_
            refine tz_fR (pc := 106) dX10_joined_106 fl_X10_46 r_145_0 ?_
            refine tz_fR (pc := 109) dX10_joined_109 fl_X10_84 r_6_1 ?_
            refine tz_aload_n (pc := 112) dX10_joined_112 rfl rfl ?_
            refine tz_iload (pc := 113) dX10_joined_113 rfl ?_
            refine tz_cV (pc := 115) (c_uTerm hl n _ _ (by omega) (by omega)) vl_X10_68 dX10_joined_115 o_145 rfl rfl (Nat.le_of_ble_eq_true rfl) ⟨(Nat.le_of_ble_eq_true rfl), (Nat.le_of_ble_eq_true rfl)⟩ rfl rfl (Nat.le_of_ble_eq_true rfl) (Nat.le_of_ble_eq_true rfl) (fun r9 J_115 hq9 => ?_)
            obtain ⟨z_115, rfl, hz_115, rfl, rfl⟩ := hq9
            refine tz_aL (pc := 118) (z := (tm (J 148 y))) (v := (J 7 (tm (J 148 y)))) dX10_joined_118 a_7 rfl (by omega) rfl (fun r_118 => ?_)
            refine tz_icmp_eq (pc := 119) (tgt := 124) dX10_joined_119 (by decide) (by omega) (by omega) (fun h_119 => ?_) (fun h_119 => ?_)
            · refine tz_iconst (pc := 124) dX10_joined_124 ?_
              refine tz_istore (pc := 125) (L2 := [_, _, _, _, _, _]) dX10_joined_125 (by decide) rfl ?_
              have loop127 : ∀ (f9 : Nat) (i : Int) (J1 : zJ), ((3 - i).toNat) < f9 → (0 ≤ i ∧ i ≤ J 8 (tm (J 148 x))) → (UW J1 J b m) → (PI J1 b m) → (zOf (zbut [145, 147, 148, 149, 151, 152]) J1 J) → tz_At l G M_X10_joined (tb_rm 2 0 0) none (tb_ZM G 0 0 (zQ n 0 (zqi (fun z J' => UW J' J b m ∧ PI J' b m ∧ (z = 0 ∨ z = 1) ∧ zOf (zbut [145, 147, 148, 149, 151, 152]) J' J))) (zX n 0 zN)) 0 0 n J1 127 [some (.ref 145), some (zi x), some (zi y), some (zi (J 148 x)), some (zi (J 148 y)), some (zi i)] [] := by
                intro f9
                induction f9 with
                | zero => intro i J1 hm9; exact absurd hm9 (Nat.not_lt_zero _)
                | succ f9 ih127 =>
                  intro i J1 hm127 hi hw hP1 fr
                  have he := C.arh hpt hqt (by omega)
                  have ha8 := C.ar hpt.1 hpt.2
                  have e8 := congrFun (fr 8 rfl) (tm (J 148 x))
                  have e8q := congrFun (fr 8 rfl) (tm (J 148 y))
                  refine tz_iload (pc := 127) dX10_joined_127 rfl ?_
                  refine tz_aload_n (pc := 129) dX10_joined_129 rfl rfl ?_
                  refine tz_fR (pc := 130) dX10_joined_130 fl_X10_46 r_145_0 ?_
                  refine tz_fR (pc := 133) dX10_joined_133 fl_X10_90 r_6_2 ?_
                  refine tz_aload_n (pc := 136) dX10_joined_136 rfl rfl ?_
                  refine tz_iload_n (pc := 137) dX10_joined_137 rfl rfl ?_
                  refine tz_cV (pc := 138) (c_uTerm hl n _ _ (by omega) (by omega)) vl_X10_68 dX10_joined_138 o_145 rfl rfl (Nat.le_of_ble_eq_true rfl) ⟨(Nat.le_of_ble_eq_true rfl), (Nat.le_of_ble_eq_true rfl)⟩ rfl rfl (Nat.le_of_ble_eq_true rfl) (Nat.le_of_ble_eq_true rfl) (fun r9 J_138 hq9 => ?_)
                  obtain ⟨z_138, rfl, hz_138, rfl, rfl⟩ := hq9
                  refine tz_aL (pc := 141) (z := (tm (J 148 x))) (v := (J 8 (tm (J 148 x)))) dX10_joined_141 a_8 rfl (by omega) (Eq.trans (congrFun (fr 8 rfl) (tm (J 148 x))) rfl) (fun r_141 => ?_)
                  refine tz_icmp_ge (pc := 142) (tgt := 170) dX10_joined_142 (by decide) (by omega) (by omega) (fun h_142 => ?_) (fun h_142 => ?_)
                  · refine tz_iconst (pc := 170) dX10_joined_170 ?_
                    exact tz_zret (pc := 171) (z := 1) dX10_joined_171 rfl (Or.inr rfl) (Nat.le_of_ble_eq_true rfl) (Nat.le_of_ble_eq_true rfl) ⟨Nat.le_refl _, Nat.le_add_right _ _⟩ ⟨_, rfl, (by decide), ⟨hw, hP1, by omega, fr⟩⟩
                  · refine tz_aload_n (pc := 145) dX10_joined_145 rfl rfl ?_
                    refine tz_aload_n (pc := 146) dX10_joined_146 rfl rfl ?_
                    refine tz_iload_n (pc := 147) dX10_joined_147 rfl rfl ?_
                    refine tz_iload (pc := 148) dX10_joined_148 rfl ?_
                    refine tz_cV (pc := 150) (c_part hl n _ _ _ (by omega) (by omega) b m (C.of (fun c hc => fr c (by simp [zbut]; omega))) hp0 (by rw [fr 8 rfl]; omega)) vl_X10_93 dX10_joined_150 o_145 rfl rfl (Nat.le_of_ble_eq_true rfl) ⟨(Nat.le_of_ble_eq_true rfl), (Nat.le_of_ble_eq_true rfl)⟩ rfl rfl (Nat.le_of_ble_eq_true rfl) (Nat.le_of_ble_eq_true rfl) (fun r9 J_150 hq9 => ?_)
                    obtain ⟨z_150, rfl, hz_150, rfl, hn_150⟩ := hq9
                    refine tz_aload_n (pc := 153) dX10_joined_153 rfl rfl ?_
                    refine tz_iload (pc := 154) dX10_joined_154 rfl ?_
                    refine tz_iload (pc := 156) dX10_joined_156 rfl ?_
                    refine tz_cV (pc := 158) (c_part hl n _ _ _ (by omega) (by omega) b m (C.of (fun c hc => fr c (by simp [zbut]; omega))) hq0 (by rw [fr 8 rfl]; omega)) vl_X10_93 dX10_joined_158 o_145 rfl rfl (Nat.le_of_ble_eq_true rfl) ⟨(Nat.le_of_ble_eq_true rfl), (Nat.le_of_ble_eq_true rfl)⟩ rfl rfl (Nat.le_of_ble_eq_true rfl) (Nat.le_of_ble_eq_true rfl) (fun r9 J_158 hq9 => ?_)
                    obtain ⟨z_158, rfl, hz_158, rfl, hn_158⟩ := hq9
                    refine tz_cV (pc := 161) (c_addPair hl n _ _ _ (by omega) (by omega) b m hP1 hn_150 hn_158) vl_X10_50 dX10_joined_161 o_145 rfl rfl (Nat.le_of_ble_eq_true rfl) ⟨(Nat.le_of_ble_eq_true rfl), (Nat.le_of_ble_eq_true rfl)⟩ rfl rfl (Nat.le_of_ble_eq_true rfl) (Nat.le_of_ble_eq_true rfl) (fun r9 J_161 hq9 => ?_)
                    obtain ⟨rfl, k1, k2, k3⟩ := hq9
                    refine tz_iinc (pc := 164) (z := i + 1) (L2 := [_, _, _, _, _, _]) dX10_joined_164 rfl (by omega) rfl ?_
                    refine tz_goto (pc := 167) (tgt := 127) dX10_joined_167 (by decide) ?_
                    exact ih127 (i + 1) _ (by omega) (by omega) (hw.of (Int.le_refl _) k2 (fun c hc => k3 c (by simp [zbut]; omega))) k1 ((k3.mono (fun c hc => by simp [zbut] at hc ⊢; omega)).tr fr)
              exact loop127 _ 0 _ (Nat.lt_succ_self _) (by have := C.ar hpt.1 hpt.2; omega) (UW.p8 (UW.p7 (UW.rf hU) hx ax) (by first | exact hq9 | exact hp9)) (hP.of rfl rfl rfl) (zOf.up rfl (zOf.up rfl zOf.rf))
            · refine tz_iconst (pc := 122) dX10_joined_122 ?_
              exact tz_zret (pc := 123) (z := 0) dX10_joined_123 rfl (Or.inl rfl) (Nat.le_of_ble_eq_true rfl) (Nat.le_of_ble_eq_true rfl) ⟨Nat.le_refl _, Nat.le_add_right _ _⟩ ⟨_, rfl, (by decide), ⟨(UW.p8 (UW.p7 (UW.rf hU) hx ax) (by first | exact hq9 | exact hp9)), hP.of rfl rfl rfl, by omega, (zOf.up rfl (zOf.up rfl zOf.rf))⟩⟩
          · refine tz_iconst (pc := 90) dX10_joined_90 ?_
            exact tz_zret (pc := 91) (z := 1) dX10_joined_91 rfl (Or.inr rfl) (Nat.le_of_ble_eq_true rfl) (Nat.le_of_ble_eq_true rfl) ⟨Nat.le_refl _, Nat.le_add_right _ _⟩ ⟨_, rfl, (by decide), ⟨(UW.p8 (UW.p7 (UW.rf hU) hx ax) (by first | exact hq9 | exact hp9)), hP.of rfl rfl rfl, by omega, (zOf.up rfl (zOf.up rfl zOf.rf))⟩⟩
      · refine tz_iload (pc := 51) dX10_joined_51 rfl ?_
        refine tz_iconst (pc := 53) dX10_joined_53 ?_
        refine tz_icmp_ne (pc := 54) (tgt := 79) dX10_joined_54 (by decide) (by omega) (by decide) (fun h_54 => ?_) (fun h_54 => ?_)
        · refine tz_iload_n (pc := 79) dX10_joined_79 rfl rfl ?_
          refine tz_iconst (pc := 80) dX10_joined_80 ?_
          refine tz_icmp_eq (pc := 81) (tgt := 90) dX10_joined_81 (by decide) (by omega) (by decide) (fun h_81 => ?_) (fun h_81 => ?_)
          · refine tz_iconst (pc := 90) dX10_joined_90 ?_
            exact tz_zret (pc := 91) (z := 1) dX10_joined_91 rfl (Or.inr rfl) (Nat.le_of_ble_eq_true rfl) (Nat.le_of_ble_eq_true rfl) ⟨Nat.le_refl _, Nat.le_add_right _ _⟩ ⟨_, rfl, (by decide), ⟨(UW.p8 (UW.p7 (UW.rf hU) hx ax) (by first | exact hq9 | exact hp9)), hP.of rfl rfl rfl, by omega, (zOf.up rfl (zOf.up rfl zOf.rf))⟩⟩
          · refine tz_iload (pc := 84) dX10_joined_84 rfl ?_
            refine tz_iconst (pc := 86) dX10_joined_86 ?_
            refine tz_icmp_ne (pc := 87) (tgt := 92) dX10_joined_87 (by decide) (by omega) (by decide) (fun h_87 => ?_) (fun h_87 => ?_)
            · have hp0 := hp9.resolve_left (by omega)
              have hq0 := hq9.resolve_left (by omega)
              have hpr := hp0.rg hm
              have hqr := hq0.rg hm
              have hpt := hp0.ix hm
              have hqt := hq0.ix hm
              refine tz_aload_n (pc := 92) dX10_joined_92 rfl rfl ?_
              refine tz_fR (pc := 93) dX10_joined_93 fl_X10_46 r_145_0 ?_
              refine tz_fR (pc := 96) dX10_joined_96 fl_X10_84 r_6_1 ?_
              refine tz_aload_n (pc := 99) dX10_joined_99 rfl rfl ?_
              refine tz_iload_n (pc := 100) dX10_joined_100 rfl rfl ?_
              refine tz_cV (pc := 101) (c_uTerm hl n _ _ (by omega) (by omega)) vl_X10_68 dX10_joined_101 o_145 rfl rfl (Nat.le_of_ble_eq_true rfl) ⟨(Nat.le_of_ble_eq_true rfl), (Nat.le_of_ble_eq_true rfl)⟩ rfl rfl (Nat.le_of_ble_eq_true rfl) (Nat.le_of_ble_eq_true rfl) (fun r9 J_101 hq9 => ?_)
              obtain ⟨z_101, rfl, hz_101, rfl, rfl⟩ := hq9
              refine tz_aL (pc := 104) (z := (tm (J 148 x))) (v := (J 7 (tm (J 148 x)))) dX10_joined_104 a_7 rfl (by omega) rfl (fun r_104 => ?_)
              refine tz_aload_n (pc := 105) dX10_joined_105 rfl rfl ?_
              refine tz_fR (pc := 106) dX10_joined_106 fl_X10_46 r_145_0 ?_
              refine tz_fR (pc := 109) dX10_joined_109 fl_X10_84 r_6_1 ?_
              refine tz_aload_n (pc := 112) dX10_joined_112 rfl rfl ?_
              refine tz_iload (pc := 113) dX10_joined_113 rfl ?_
              refine tz_cV (pc := 115) (c_uTerm hl n _ _ (by omega) (by omega)) vl_X10_68 dX10_joined_115 o_145 rfl rfl (Nat.le_of_ble_eq_true rfl) ⟨(Nat.le_of_ble_eq_true rfl), (Nat.le_of_ble_eq_true rfl)⟩ rfl rfl (Nat.le_of_ble_eq_true rfl) (Nat.le_of_ble_eq_true rfl) (fun r9 J_115 hq9 => ?_)
              obtain ⟨z_115, rfl, hz_115, rfl, rfl⟩ := hq9
              refine tz_aL (pc := 118) (z := (tm (J 148 y))) (v := (J 7 (tm (J 148 y)))) dX10_joined_118 a_7 rfl (by omega) rfl (fun r_118 => ?_)
              refine tz_icmp_eq (pc := 119) (tgt := 124) dX10_joined_119 (by decide) (by omega) (by omega) (fun h_119 => ?_) (fun h_119 => ?_)
              · refine tz_iconst (pc := 124) dX10_joined_124 ?_
                refine tz_istore (pc := 125) (L2 := [_, _, _, _, _, _]) dX10_joined_125 (by decide) rfl ?_
                have loop127 : ∀ (f9 : Nat) (i : Int) (J1 : zJ), ((3 - i).toNat) < f9 → (0 ≤ i ∧ i ≤ J 8 (tm (J 148 x))) → (UW J1 J b m) → (PI J1 b m) → (zOf (zbut [145, 147, 148, 149, 151, 152]) J1 J) → tz_At l G M_X10_joined (tb_rm 2 0 0) none (tb_ZM G 0 0 (zQ n 0 (zqi (fun z J' => UW J' J b m ∧ PI J' b m ∧ (z = 0 ∨ z = 1) ∧ zOf (zbut [145, 147, 148, 149, 151, 152]) J' J))) (zX n 0 zN)) 0 0 n J1 127 [some (.ref 145), some (zi x), some (zi y), some (zi (J 148 x)), some (zi (J 148 y)), some (zi i)] [] := by
                  intro f9
                  induction f9 with
                  | zero => intro i J1 hm9; exact absurd hm9 (Nat.not_lt_zero _)
                  | succ f9 ih127 =>
                    intro i J1 hm127 hi hw hP1 fr
                    have he := C.arh hpt hqt (by omega)
                    have ha8 := C.ar hpt.1 hpt.2
                    have e8 := congrFun (fr 8 rfl) (tm (J 148 x))
                    have e8q := congrFun (fr 8 rfl) (tm (J 148 y))
                    refine tz_iload (pc := 127) dX10_joined_127 rfl ?_
                    refine tz_aload_n (pc := 129) dX10_joined_129 rfl rfl ?_
                    refine tz_fR (pc := 130) dX10_joined_130 fl_X10_46 r_145_0 ?_
                    refine tz_fR (pc := 133) dX10_joined_133 fl_X10_90 r_6_2 ?_
                    refine tz_aload_n (pc := 136) dX10_joined_136 rfl rfl ?_
                    refine tz_iload_n (pc := 137) dX10_joined_137 rfl rfl ?_
                    refine tz_cV (pc := 138) (c_uTerm hl n _ _ (by omega) (by omega)) vl_X10_68 dX10_joined_138 o_145 rfl rfl (Nat.le_of_ble_eq_true rfl) ⟨(Nat.le_of_ble_eq_true rfl), (Nat.le_of_ble_eq_true rfl)⟩ rfl rfl (Nat.le_of_ble_eq_true rfl) (Nat.le_of_ble_eq_true rfl) (fun r9 J_138 hq9 => ?_)
                    obtain ⟨z_138, rfl, hz_138, rfl, rfl⟩ := hq9
                    refine tz_aL (pc := 141) (z := (tm (J 148 x))) (v := (J 8 (tm (J 148 x)))) dX10_joined_141 a_8 rfl (by omega) (Eq.trans (congrFun (fr 8 rfl) (tm (J 148 x))) rfl) (fun r_141 => ?_)
                    refine tz_icmp_ge (pc := 142) (tgt := 170) dX10_joined_142 (by decide) (by omega) (by omega) (fun h_142 => ?_) (fun h_142 => ?_)
                    · refine tz_iconst (pc := 170) dX10_joined_170 ?_
                      exact tz_zret (pc := 171) (z := 1) dX10_joined_171 rfl (Or.inr rfl) (Nat.le_of_ble_eq_true rfl) (Nat.le_of_ble_eq_true rfl) ⟨Nat.le_refl _, Nat.le_add_right _ _⟩ ⟨_, rfl, (by decide), ⟨hw, hP1, by omega, fr⟩⟩
                    · refine tz_aload_n (pc := 145) dX10_joined_145 rfl rfl ?_
                      refine tz_aload_n (pc := 146) dX10_joined_146 rfl rfl ?_
                      refine tz_iload_n (pc := 147) dX10_joined_147 rfl rfl ?_
                      refine tz_iload (pc := 148) dX10_joined_148 rfl ?_
                      refine tz_cV (pc := 150) (c_part hl n _ _ _ (by omega) (by omega) b m (C.of (fun c hc => fr c (by simp [zbut]; omega))) hp0 (by rw [fr 8 rfl]; omega)) vl_X10_93 dX10_joined_150 o_145 rfl rfl (Nat.le_of_ble_eq_true rfl) ⟨(Nat.le_of_ble_eq_true rfl), (Nat.le_of_ble_eq_true rfl)⟩ rfl rfl (Nat.le_of_ble_eq_true rfl) (Nat.le_of_ble_eq_true rfl) (fun r9 J_150 hq9 => ?_)
                      obtain ⟨z_150, rfl, hz_150, rfl, hn_150⟩ := hq9
                      refine tz_aload_n (pc := 153) dX10_joined_153 rfl rfl ?_
                      refine tz_iload (pc := 154) dX10_joined_154 rfl ?_
                      refine tz_iload (pc := 156) dX10_joined_156 rfl ?_
                      refine tz_cV (pc := 158) (c_part hl n _ _ _ (by omega) (by omega) b m (C.of (fun c hc => fr c (by simp [zbut]; omega))) hq0 (by rw [fr 8 rfl]; omega)) vl_X10_93 dX10_joined_158 o_145 rfl rfl (Nat.le_of_ble_eq_true rfl) ⟨(Nat.le_of_ble_eq_true rfl), (Nat.le_of_ble_eq_true rfl)⟩ rfl rfl (Nat.le_of_ble_eq_true rfl) (Nat.le_of_ble_eq_true rfl) (fun r9 J_158 hq9 => ?_)
                      obtain ⟨z_158, rfl, hz_158, rfl, hn_158⟩ := hq9
                      refine tz_cV (pc := 161) (c_addPair hl n _ _ _ (by omega) (by omega) b m hP1 hn_150 hn_158) vl_X10_50 dX10_joined_161 o_145 rfl rfl (Nat.le_of_ble_eq_true rfl) ⟨(Nat.le_of_ble_eq_true rfl), (Nat.le_of_ble_eq_true rfl)⟩ rfl rfl (Nat.le_of_ble_eq_true rfl) (Nat.le_of_ble_eq_true rfl) (fun r9 J_161 hq9 => ?_)
                      obtain ⟨rfl, k1, k2, k3⟩ := hq9
                      refine tz_iinc (pc := 164) (z := i + 1) (L2 := [_, _, _, _, _, _]) dX10_joined_164 rfl (by omega) rfl ?_
                      refine tz_goto (pc := 167) (tgt := 127) dX10_joined_167 (by decide) ?_
                      exact ih127 (i + 1) _ (by omega) (by omega) (hw.of (Int.le_refl _) k2 (fun c hc => k3 c (by simp [zbut]; omega))) k1 ((k3.mono (fun c hc => by simp [zbut] at hc ⊢; omega)).tr fr)
                exact loop127 _ 0 _ (Nat.lt_succ_self _) (by have := C.ar hpt.1 hpt.2; omega) (UW.p8 (UW.p7 (UW.rf hU) hx ax) (by first | exact hq9 | exact hp9)) (hP.of rfl rfl rfl) (zOf.up rfl (zOf.up rfl zOf.rf))
              · refine tz_iconst (pc := 122) dX10_joined_122 ?_
                exact tz_zret (pc := 123) (z := 0) dX10_joined_123 rfl (Or.inl rfl) (Nat.le_of_ble_eq_true rfl) (Nat.le_of_ble_eq_true rfl) ⟨Nat.le_refl _, Nat.le_add_right _ _⟩ ⟨_, rfl, (by decide), ⟨(UW.p8 (UW.p7 (UW.rf hU) hx ax) (by first | exact hq9 | exact hp9)), hP.of rfl rfl rfl, by omega, (zOf.up rfl (zOf.up rfl zOf.rf))⟩⟩
            · refine tz_iconst (pc := 90) dX10_joined_90 ?_
              exact tz_zret (pc := 91) (z := 1) dX10_joined_91 rfl (Or.inr rfl) (Nat.le_of_ble_eq_true rfl) (Nat.le_of_ble_eq_true rfl) ⟨Nat.le_refl _, Nat.le_add_right _ _⟩ ⟨_, rfl, (by decide), ⟨(UW.p8 (UW.p7 (UW.rf hU) hx ax) (by first | exact hq9 | exact hp9)), hP.of rfl rfl rfl, by omega, (zOf.up rfl (zOf.up rfl zOf.rf))⟩⟩
        · refine tz_aload_n (pc := 57) dX10_joined_57 rfl rfl ?_
          refine tz_fR (pc := 58) dX10_joined_58 fl_X10_21 r_145_4 ?_
          refine tz_iload_n (pc := 61) dX10_joined_61 rfl rfl ?_
          refine tz_aload_n (pc := 62) dX10_joined_62 rfl rfl ?_
          refine tz_aload_n (pc := 63) dX10_joined_63 rfl rfl ?_
          refine tz_fR (pc := 64) dX10_joined_64 fl_X10_21 r_145_4 ?_
          refine tz_iload_n (pc := 67) dX10_joined_67 rfl rfl ?_
          refine tz_aL (pc := 68) (z := x) (v := (J 149 x)) dX10_joined_68 a_149 rfl (by omega) rfl (fun r_68 => ?_)
          refine tz_aload_n (pc := 69) dX10_joined_69 rfl rfl ?_
          refine tz_fR (pc := 70) dX10_joined_70 fl_X10_21 r_145_4 ?_
          refine tz_iload_n (pc := 73) dX10_joined_73 rfl rfl ?_
          refine tz_aL (pc := 74) (z := y) (v := (J 149 y)) dX10_joined_74 a_149 rfl (by omega) rfl (fun r_74 => ?_)
          refine tz_cV (pc := 75) (c_lesser hl n _ _ _ (by omega) (by omega) b m hm ux.2.2.2.1 uy.2.2.2.1) vl_X10_87 dX10_joined_75 o_145 rfl rfl (Nat.le_of_ble_eq_true rfl) ⟨(Nat.le_of_ble_eq_true rfl), (Nat.le_of_ble_eq_true rfl)⟩ rfl rfl (Nat.le_of_ble_eq_true rfl) (Nat.le_of_ble_eq_true rfl) (fun r9 J_75 hq9 => ?_)
          obtain ⟨zl9, rfl, hz_75, rfl, hlz⟩ := hq9
          have hl9 : nd b m zl9 := by rcases hlz with e | e <;> rw [e] <;> first | exact ux.2.2.2.1 | exact uy.2.2.2.1
          have hl8 := hl9.rg hm
          refine tz_aS (pc := 78) (z := x) dX10_joined_78 a_149 rfl (by omega) (by omega) ?_
          refine tz_iload_n (pc := 79) dX10_joined_79 rfl rfl ?_
          refine tz_iconst (pc := 80) dX10_joined_80 ?_
          refine tz_icmp_eq (pc := 81) (tgt := 90) dX10_joined_81 (by decide) (by omega) (by decide) (fun h_81 => ?_) (fun h_81 => ?_)
          · refine tz_iconst (pc := 90) dX10_joined_90 ?_
            exact tz_zret (pc := 91) (z := 1) dX10_joined_91 rfl (Or.inr rfl) (Nat.le_of_ble_eq_true rfl) (Nat.le_of_ble_eq_true rfl) ⟨Nat.le_refl _, Nat.le_add_right _ _⟩ ⟨_, rfl, (by decide), ⟨(UW.p9 (UW.p8 (UW.p7 (UW.rf hU) hx ax) (by first | exact hq9 | exact hp9)) hl9), hP.of rfl rfl rfl, by omega, (zOf.up rfl (zOf.up rfl (zOf.up rfl zOf.rf)))⟩⟩
          · refine tz_iload (pc := 84) dX10_joined_84 rfl ?_
            refine tz_iconst (pc := 86) dX10_joined_86 ?_
            refine tz_icmp_ne (pc := 87) (tgt := 92) dX10_joined_87 (by decide) (by omega) (by decide) (fun h_87 => ?_) (fun h_87 => ?_)
            · have hp0 := hp9.resolve_left (by omega)
              have hq0 := hq9.resolve_left (by omega)
              have hpr := hp0.rg hm
              have hqr := hq0.rg hm
              have hpt := hp0.ix hm
              have hqt := hq0.ix hm
              refine tz_aload_n (pc := 92) dX10_joined_92 rfl rfl ?_
              refine tz_fR (pc := 93) dX10_joined_93 fl_X10_46 r_145_0 ?_
              refine tz_fR (pc := 96) dX10_joined_96 fl_X10_84 r_6_1 ?_
              refine tz_aload_n (pc := 99) dX10_joined_99 rfl rfl ?_
              refine tz_iload_n (pc := 100) dX10_joined_100 rfl rfl ?_
              refine tz_cV (pc := 101) (c_uTerm hl n _ _ (by omega) (by omega)) vl_X10_68 dX10_joined_101 o_145 rfl rfl (Nat.le_of_ble_eq_true rfl) ⟨(Nat.le_of_ble_eq_true rfl), (Nat.le_of_ble_eq_true rfl)⟩ rfl rfl (Nat.le_of_ble_eq_true rfl) (Nat.le_of_ble_eq_true rfl) (fun r9 J_101 hq9 => ?_)
              obtain ⟨z_101, rfl, hz_101, rfl, rfl⟩ := hq9
              refine tz_aL (pc := 104) (z := (tm (J 148 x))) (v := (J 7 (tm (J 148 x)))) dX10_joined_104 a_7 rfl (by omega) rfl (fun r_104 => ?_)
              refine tz_aload_n (pc := 105) dX10_joined_105 rfl rfl ?_
              refine tz_fR (pc := 106) dX10_joined_106 fl_X10_46 r_145_0 ?_
              refine tz_fR (pc := 109) dX10_joined_109 fl_X10_84 r_6_1 ?_
              refine tz_aload_n (pc := 112) dX10_joined_112 rfl rfl ?_
              refine tz_iload (pc := 113) dX10_joined_113 rfl ?_
              refine tz_cV (pc := 115) (c_uTerm hl n _ _ (by omega) (by omega)) vl_X10_68 dX10_joined_115 o_145 rfl rfl (Nat.le_of_ble_eq_true rfl) ⟨(Nat.le_of_ble_eq_true rfl), (Nat.le_of_ble_eq_true rfl)⟩ rfl rfl (Nat.le_of_ble_eq_true rfl) (Nat.le_of_ble_eq_true rfl) (fun r9 J_115 hq9 => ?_)
              obtain ⟨z_115, rfl, hz_115, rfl, rfl⟩ := hq9
              refine tz_aL (pc := 118) (z := (tm (J 148 y))) (v := (J 7 (tm (J 148 y)))) dX10_joined_118 a_7 rfl (by omega) rfl (fun r_118 => ?_)
              refine tz_icmp_eq (pc := 119) (tgt := 124) dX10_joined_119 (by decide) (by omega) (by omega) (fun h_119 => ?_) (fun h_119 => ?_)
              · refine tz_iconst (pc := 124) dX10_joined_124 ?_
                refine tz_istore (pc := 125) (L2 := [_, _, _, _, _, _]) dX10_joined_125 (by decide) rfl ?_
                have loop127 : ∀ (f9 : Nat) (i : Int) (J1 : zJ), ((3 - i).toNat) < f9 → (0 ≤ i ∧ i ≤ J 8 (tm (J 148 x))) → (UW J1 J b m) → (PI J1 b m) → (zOf (zbut [145, 147, 148, 149, 151, 152]) J1 J) → tz_At l G M_X10_joined (tb_rm 2 0 0) none (tb_ZM G 0 0 (zQ n 0 (zqi (fun z J' => UW J' J b m ∧ PI J' b m ∧ (z = 0 ∨ z = 1) ∧ zOf (zbut [145, 147, 148, 149, 151, 152]) J' J))) (zX n 0 zN)) 0 0 n J1 127 [some (.ref 145), some (zi x), some (zi y), some (zi (J 148 x)), some (zi (J 148 y)), some (zi i)] [] := by
                  intro f9
                  induction f9 with
                  | zero => intro i J1 hm9; exact absurd hm9 (Nat.not_lt_zero _)
                  | succ f9 ih127 =>
                    intro i J1 hm127 hi hw hP1 fr
                    have he := C.arh hpt hqt (by omega)
                    have ha8 := C.ar hpt.1 hpt.2
                    have e8 := congrFun (fr 8 rfl) (tm (J 148 x))
                    have e8q := congrFun (fr 8 rfl) (tm (J 148 y))
                    refine tz_iload (pc := 127) dX10_joined_127 rfl ?_
                    refine tz_aload_n (pc := 129) dX10_joined_129 rfl rfl ?_
                    refine tz_fR (pc := 130) dX10_joined_130 fl_X10_46 r_145_0 ?_
                    refine tz_fR (pc := 133) dX10_joined_133 fl_X10_90 r_6_2 ?_
                    refine tz_aload_n (pc := 136) dX10_joined_136 rfl rfl ?_
                    refine tz_iload_n (pc := 137) dX10_joined_137 rfl rfl ?_
                    refine tz_cV (pc := 138) (c_uTerm hl n _ _ (by omega) (by omega)) vl_X10_68 dX10_joined_138 o_145 rfl rfl (Nat.le_of_ble_eq_true rfl) ⟨(Nat.le_of_ble_eq_true rfl), (Nat.le_of_ble_eq_true rfl)⟩ rfl rfl (Nat.le_of_ble_eq_true rfl) (Nat.le_of_ble_eq_true rfl) (fun r9 J_138 hq9 => ?_)
                    obtain ⟨z_138, rfl, hz_138, rfl, rfl⟩ := hq9
                    refine tz_aL (pc := 141) (z := (tm (J 148 x))) (v := (J 8 (tm (J 148 x)))) dX10_joined_141 a_8 rfl (by omega) (Eq.trans (congrFun (fr 8 rfl) (tm (J 148 x))) rfl) (fun r_141 => ?_)
                    refine tz_icmp_ge (pc := 142) (tgt := 170) dX10_joined_142 (by decide) (by omega) (by omega) (fun h_142 => ?_) (fun h_142 => ?_)
                    · refine tz_iconst (pc := 170) dX10_joined_170 ?_
                      exact tz_zret (pc := 171) (z := 1) dX10_joined_171 rfl (Or.inr rfl) (Nat.le_of_ble_eq_true rfl) (Nat.le_of_ble_eq_true rfl) ⟨Nat.le_refl _, Nat.le_add_right _ _⟩ ⟨_, rfl, (by decide), ⟨hw, hP1, by omega, fr⟩⟩
                    · refine tz_aload_n (pc := 145) dX10_joined_145 rfl rfl ?_
                      refine tz_aload_n (pc := 146) dX10_joined_146 rfl rfl ?_
                      refine tz_iload_n (pc := 147) dX10_joined_147 rfl rfl ?_
                      refine tz_iload (pc := 148) dX10_joined_148 rfl ?_
                      refine tz_cV (pc := 150) (c_part hl n _ _ _ (by omega) (by omega) b m (C.of (fun c hc => fr c (by simp [zbut]; omega))) hp0 (by rw [fr 8 rfl]; omega)) vl_X10_93 dX10_joined_150 o_145 rfl rfl (Nat.le_of_ble_eq_true rfl) ⟨(Nat.le_of_ble_eq_true rfl), (Nat.le_of_ble_eq_true rfl)⟩ rfl rfl (Nat.le_of_ble_eq_true rfl) (Nat.le_of_ble_eq_true rfl) (fun r9 J_150 hq9 => ?_)
                      obtain ⟨z_150, rfl, hz_150, rfl, hn_150⟩ := hq9
                      refine tz_aload_n (pc := 153) dX10_joined_153 rfl rfl ?_
                      refine tz_iload (pc := 154) dX10_joined_154 rfl ?_
                      refine tz_iload (pc := 156) dX10_joined_156 rfl ?_
                      refine tz_cV (pc := 158) (c_part hl n _ _ _ (by omega) (by omega) b m (C.of (fun c hc => fr c (by simp [zbut]; omega))) hq0 (by rw [fr 8 rfl]; omega)) vl_X10_93 dX10_joined_158 o_145 rfl rfl (Nat.le_of_ble_eq_true rfl) ⟨(Nat.le_of_ble_eq_true rfl), (Nat.le_of_ble_eq_true rfl)⟩ rfl rfl (Nat.le_of_ble_eq_true rfl) (Nat.le_of_ble_eq_true rfl) (fun r9 J_158 hq9 => ?_)
                      obtain ⟨z_158, rfl, hz_158, rfl, hn_158⟩ := hq9
                      refine tz_cV (pc := 161) (c_addPair hl n _ _ _ (by omega) (by omega) b m hP1 hn_150 hn_158) vl_X10_50 dX10_joined_161 o_145 rfl rfl (Nat.le_of_ble_eq_true rfl) ⟨(Nat.le_of_ble_eq_true rfl), (Nat.le_of_ble_eq_true rfl)⟩ rfl rfl (Nat.le_of_ble_eq_true rfl) (Nat.le_of_ble_eq_true rfl) (fun r9 J_161 hq9 => ?_)
                      obtain ⟨rfl, k1, k2, k3⟩ := hq9
                      refine tz_iinc (pc := 164) (z := i + 1) (L2 := [_, _, _, _, _, _]) dX10_joined_164 rfl (by omega) rfl ?_
                      refine tz_goto (pc := 167) (tgt := 127) dX10_joined_167 (by decide) ?_
                      exact ih127 (i + 1) _ (by omega) (by omega) (hw.of (Int.le_refl _) k2 (fun c hc => k3 c (by simp [zbut]; omega))) k1 ((k3.mono (fun c hc => by simp [zbut] at hc ⊢; omega)).tr fr)
                exact loop127 _ 0 _ (Nat.lt_succ_self _) (by have := C.ar hpt.1 hpt.2; omega) (UW.p9 (UW.p8 (UW.p7 (UW.rf hU) hx ax) (by first | exact hq9 | exact hp9)) hl9) (hP.of rfl rfl rfl) (zOf.up rfl (zOf.up rfl (zOf.up rfl zOf.rf)))
              · refine tz_iconst (pc := 122) dX10_joined_122 ?_
                exact tz_zret (pc := 123) (z := 0) dX10_joined_123 rfl (Or.inl rfl) (Nat.le_of_ble_eq_true rfl) (Nat.le_of_ble_eq_true rfl) ⟨Nat.le_refl _, Nat.le_add_right _ _⟩ ⟨_, rfl, (by decide), ⟨(UW.p9 (UW.p8 (UW.p7 (UW.rf hU) hx ax) (by first | exact hq9 | exact hp9)) hl9), hP.of rfl rfl rfl, by omega, (zOf.up rfl (zOf.up rfl (zOf.up rfl zOf.rf)))⟩⟩
            · refine tz_iconst (pc := 90) dX10_joined_90 ?_
              exact tz_zret (pc := 91) (z := 1) dX10_joined_91 rfl (Or.inr rfl) (Nat.le_of_ble_eq_true rfl) (Nat.le_of_ble_eq_true rfl) ⟨Nat.le_refl _, Nat.le_add_right _ _⟩ ⟨_, rfl, (by decide), ⟨(UW.p9 (UW.p8 (UW.p7 (UW.rf hU) hx ax) (by first | exact hq9 | exact hp9)) hl9), hP.of rfl rfl rfl, by omega, (zOf.up rfl (zOf.up rfl (zOf.up rfl zOf.rf)))⟩⟩
    · refine tz_iload (pc := 39) dX10_joined_39 rfl ?_
      refine tz_goto (pc := 41) (tgt := 45) dX10_joined_41 (by decide) ?_
      refine tz_aS (pc := 45) (z := x) dX10_joined_45 a_148 rfl (by omega) (by omega) ?_
      refine tz_iload_n (pc := 46) dX10_joined_46 rfl rfl ?_
      refine tz_iconst (pc := 47) dX10_joined_47 ?_
      refine tz_icmp_ne (pc := 48) (tgt := 79) dX10_joined_48 (by decide) (by omega) (by decide) (fun h_48 => ?_) (fun h_48 => ?_)
      · refine tz_iload_n (pc := 79) dX10_joined_79 rfl rfl ?_
        refine tz_iconst (pc := 80) dX10_joined_80 ?_
        refine tz_icmp_eq (pc := 81) (tgt := 90) dX10_joined_81 (by decide) (by omega) (by decide) (fun h_81 => ?_) (fun h_81 => ?_)
        · refine tz_iconst (pc := 90) dX10_joined_90 ?_
          exact tz_zret (pc := 91) (z := 1) dX10_joined_91 rfl (Or.inr rfl) (Nat.le_of_ble_eq_true rfl) (Nat.le_of_ble_eq_true rfl) ⟨Nat.le_refl _, Nat.le_add_right _ _⟩ ⟨_, rfl, (by decide), ⟨(UW.p8 (UW.p7 (UW.rf hU) hx ax) (by first | exact hq9 | exact hp9)), hP.of rfl rfl rfl, by omega, (zOf.up rfl (zOf.up rfl zOf.rf))⟩⟩
        · refine tz_iload (pc := 84) dX10_joined_84 rfl ?_
          refine tz_iconst (pc := 86) dX10_joined_86 ?_
          refine tz_icmp_ne (pc := 87) (tgt := 92) dX10_joined_87 (by decide) (by omega) (by decide) (fun h_87 => ?_) (fun h_87 => ?_)
          · have hp0 := hp9.resolve_left (by omega)
            have hq0 := hq9.resolve_left (by omega)
            have hpr := hp0.rg hm
            have hqr := hq0.rg hm
            have hpt := hp0.ix hm
            have hqt := hq0.ix hm
            refine tz_aload_n (pc := 92) dX10_joined_92 rfl rfl ?_
            refine tz_fR (pc := 93) dX10_joined_93 fl_X10_46 r_145_0 ?_
            refine tz_fR (pc := 96) dX10_joined_96 fl_X10_84 r_6_1 ?_
            refine tz_aload_n (pc := 99) dX10_joined_99 rfl rfl ?_
            refine tz_iload_n (pc := 100) dX10_joined_100 rfl rfl ?_
            refine tz_cV (pc := 101) (c_uTerm hl n _ _ (by omega) (by omega)) vl_X10_68 dX10_joined_101 o_145 rfl rfl (Nat.le_of_ble_eq_true rfl) ⟨(Nat.le_of_ble_eq_true rfl), (Nat.le_of_ble_eq_true rfl)⟩ rfl rfl (Nat.le_of_ble_eq_true rfl) (Nat.le_of_ble_eq_true rfl) (fun r9 J_101 hq9 => ?_)
            obtain ⟨z_101, rfl, hz_101, rfl, rfl⟩ := hq9
            refine tz_aL (pc := 104) (z := (tm (J 148 x))) (v := (J 7 (tm (J 148 x)))) dX10_joined_104 a_7 rfl (by omega) rfl (fun r_104 => ?_)
            refine tz_aload_n (pc := 105) dX10_joined_105 rfl rfl ?_
            refine tz_fR (pc := 106) dX10_joined_106 fl_X10_46 r_145_0 ?_
            refine tz_fR (pc := 109) dX10_joined_109 fl_X10_84 r_6_1 ?_
            refine tz_aload_n (pc := 112) dX10_joined_112 rfl rfl ?_
            refine tz_iload (pc := 113) dX10_joined_113 rfl ?_
            refine tz_cV (pc := 115) (c_uTerm hl n _ _ (by omega) (by omega)) vl_X10_68 dX10_joined_115 o_145 rfl rfl (Nat.le_of_ble_eq_true rfl) ⟨(Nat.le_of_ble_eq_true rfl), (Nat.le_of_ble_eq_true rfl)⟩ rfl rfl (Nat.le_of_ble_eq_true rfl) (Nat.le_of_ble_eq_true rfl) (fun r9 J_115 hq9 => ?_)
            obtain ⟨z_115, rfl, hz_115, rfl, rfl⟩ := hq9
            refine tz_aL (pc := 118) (z := (tm (J 148 y))) (v := (J 7 (tm (J 148 y)))) dX10_joined_118 a_7 rfl (by omega) rfl (fun r_118 => ?_)
            refine tz_icmp_eq (pc := 119) (tgt := 124) dX10_joined_119 (by decide) (by omega) (by omega) (fun h_119 => ?_) (fun h_119 => ?_)
            · refine tz_iconst (pc := 124) dX10_joined_124 ?_
              refine tz_istore (pc := 125) (L2 := [_, _, _, _, _, _]) dX10_joined_125 (by decide) rfl ?_
              have loop127 : ∀ (f9 : Nat) (i : Int) (J1 : zJ), ((3 - i).toNat) < f9 → (0 ≤ i ∧ i ≤ J 8 (tm (J 148 x))) → (UW J1 J b m) → (PI J1 b m) → (zOf (zbut [145, 147, 148, 149, 151, 152]) J1 J) → tz_At l G M_X10_joined (tb_rm 2 0 0) none (tb_ZM G 0 0 (zQ n 0 (zqi (fun z J' => UW J' J b m ∧ PI J' b m ∧ (z = 0 ∨ z = 1) ∧ zOf (zbut [145, 147, 148, 149, 151, 152]) J' J))) (zX n 0 zN)) 0 0 n J1 127 [some (.ref 145), some (zi x), some (zi y), some (zi (J 148 x)), some (zi (J 148 y)), some (zi i)] [] := by
                intro f9
                induction f9 with
                | zero => intro i J1 hm9; exact absurd hm9 (Nat.not_lt_zero _)
                | succ f9 ih127 =>
                  intro i J1 hm127 hi hw hP1 fr
                  have he := C.arh hpt hqt (by omega)
                  have ha8 := C.ar hpt.1 hpt.2
                  have e8 := congrFun (fr 8 rfl) (tm (J 148 x))
                  have e8q := congrFun (fr 8 rfl) (tm (J 148 y))
                  refine tz_iload (pc := 127) dX10_joined_127 rfl ?_
                  refine tz_aload_n (pc := 129) dX10_joined_129 rfl rfl ?_
                  refine tz_fR (pc := 130) dX10_joined_130 fl_X10_46 r_145_0 ?_
                  refine tz_fR (pc := 133) dX10_joined_133 fl_X10_90 r_6_2 ?_
                  refine tz_aload_n (pc := 136) dX10_joined_136 rfl rfl ?_
                  refine tz_iload_n (pc := 137) dX10_joined_137 rfl rfl ?_
                  refine tz_cV (pc := 138) (c_uTerm hl n _ _ (by omega) (by omega)) vl_X10_68 dX10_joined_138 o_145 rfl rfl (Nat.le_of_ble_eq_true rfl) ⟨(Nat.le_of_ble_eq_true rfl), (Nat.le_of_ble_eq_true rfl)⟩ rfl rfl (Nat.le_of_ble_eq_true rfl) (Nat.le_of_ble_eq_true rfl) (fun r9 J_138 hq9 => ?_)
                  obtain ⟨z_138, rfl, hz_138, rfl, rfl⟩ := hq9
                  refine tz_aL (pc := 141) (z := (tm (J 148 x))) (v := (J 8 (tm (J 148 x)))) dX10_joined_141 a_8 rfl (by omega) (Eq.trans (congrFun (fr 8 rfl) (tm (J 148 x))) rfl) (fun r_141 => ?_)
                  refine tz_icmp_ge (pc := 142) (tgt := 170) dX10_joined_142 (by decide) (by omega) (by omega) (fun h_142 => ?_) (fun h_142 => ?_)
                  · refine tz_iconst (pc := 170) dX10_joined_170 ?_
                    exact tz_zret (pc := 171) (z := 1) dX10_joined_171 rfl (Or.inr rfl) (Nat.le_of_ble_eq_true rfl) (Nat.le_of_ble_eq_true rfl) ⟨Nat.le_refl _, Nat.le_add_right _ _⟩ ⟨_, rfl, (by decide), ⟨hw, hP1, by omega, fr⟩⟩
                  · refine tz_aload_n (pc := 145) dX10_joined_145 rfl rfl ?_
                    refine tz_aload_n (pc := 146) dX10_joined_146 rfl rfl ?_
                    refine tz_iload_n (pc := 147) dX10_joined_147 rfl rfl ?_
                    refine tz_iload (pc := 148) dX10_joined_148 rfl ?_
                    refine tz_cV (pc := 150) (c_part hl n _ _ _ (by omega) (by omega) b m (C.of (fun c hc => fr c (by simp [zbut]; omega))) hp0 (by rw [fr 8 rfl]; omega)) vl_X10_93 dX10_joined_150 o_145 rfl rfl (Nat.le_of_ble_eq_true rfl) ⟨(Nat.le_of_ble_eq_true rfl), (Nat.le_of_ble_eq_true rfl)⟩ rfl rfl (Nat.le_of_ble_eq_true rfl) (Nat.le_of_ble_eq_true rfl) (fun r9 J_150 hq9 => ?_)
                    obtain ⟨z_150, rfl, hz_150, rfl, hn_150⟩ := hq9
                    refine tz_aload_n (pc := 153) dX10_joined_153 rfl rfl ?_
                    refine tz_iload (pc := 154) dX10_joined_154 rfl ?_
                    refine tz_iload (pc := 156) dX10_joined_156 rfl ?_
                    refine tz_cV (pc := 158) (c_part hl n _ _ _ (by omega) (by omega) b m (C.of (fun c hc => fr c (by simp [zbut]; omega))) hq0 (by rw [fr 8 rfl]; omega)) vl_X10_93 dX10_joined_158 o_145 rfl rfl (Nat.le_of_ble_eq_true rfl) ⟨(Nat.le_of_ble_eq_true rfl), (Nat.le_of_ble_eq_true rfl)⟩ rfl rfl (Nat.le_of_ble_eq_true rfl) (Nat.le_of_ble_eq_true rfl) (fun r9 J_158 hq9 => ?_)
                    obtain ⟨z_158, rfl, hz_158, rfl, hn_158⟩ := hq9
                    refine tz_cV (pc := 161) (c_addPair hl n _ _ _ (by omega) (by omega) b m hP1 hn_150 hn_158) vl_X10_50 dX10_joined_161 o_145 rfl rfl (Nat.le_of_ble_eq_true rfl) ⟨(Nat.le_of_ble_eq_true rfl), (Nat.le_of_ble_eq_true rfl)⟩ rfl rfl (Nat.le_of_ble_eq_true rfl) (Nat.le_of_ble_eq_true rfl) (fun r9 J_161 hq9 => ?_)
                    obtain ⟨rfl, k1, k2, k3⟩ := hq9
                    refine tz_iinc (pc := 164) (z := i + 1) (L2 := [_, _, _, _, _, _]) dX10_joined_164 rfl (by omega) rfl ?_
                    refine tz_goto (pc := 167) (tgt := 127) dX10_joined_167 (by decide) ?_
                    exact ih127 (i + 1) _ (by omega) (by omega) (hw.of (Int.le_refl _) k2 (fun c hc => k3 c (by simp [zbut]; omega))) k1 ((k3.mono (fun c hc => by simp [zbut] at hc ⊢; omega)).tr fr)
              exact loop127 _ 0 _ (Nat.lt_succ_self _) (by have := C.ar hpt.1 hpt.2; omega) (UW.p8 (UW.p7 (UW.rf hU) hx ax) (by first | exact hq9 | exact hp9)) (hP.of rfl rfl rfl) (zOf.up rfl (zOf.up rfl zOf.rf))
            · refine tz_iconst (pc := 122) dX10_joined_122 ?_
              exact tz_zret (pc := 123) (z := 0) dX10_joined_123 rfl (Or.inl rfl) (Nat.le_of_ble_eq_true rfl) (Nat.le_of_ble_eq_true rfl) ⟨Nat.le_refl _, Nat.le_add_right _ _⟩ ⟨_, rfl, (by decide), ⟨(UW.p8 (UW.p7 (UW.rf hU) hx ax) (by first | exact hq9 | exact hp9)), hP.of rfl rfl rfl, by omega, (zOf.up rfl (zOf.up rfl zOf.rf))⟩⟩
          · refine tz_iconst (pc := 90) dX10_joined_90 ?_
            exact tz_zret (pc := 91) (z := 1) dX10_joined_91 rfl (Or.inr rfl) (Nat.le_of_ble_eq_true rfl) (Nat.le_of_ble_eq_true rfl) ⟨Nat.le_refl _, Nat.le_add_right _ _⟩ ⟨_, rfl, (by decide), ⟨(UW.p8 (UW.p7 (UW.rf hU) hx ax) (by first | exact hq9 | exact hp9)), hP.of rfl rfl rfl, by omega, (zOf.up rfl (zOf.up rfl zOf.rf))⟩⟩
      · refine tz_iload (pc := 51) dX10_joined_51 rfl ?_
        refine tz_iconst (pc := 53) dX10_joined_53 ?_
        refine tz_icmp_ne (pc := 54) (tgt := 79) dX10_joined_54 (by decide) (by omega) (by decide) (fun h_54 => ?_) (fun h_54 => ?_)
        · refine tz_iload_n (pc := 79) dX10_joined_79 rfl rfl ?_
          refine tz_iconst (pc := 80) dX10_joined_80 ?_
          refine tz_icmp_eq (pc := 81) (tgt := 90) dX10_joined_81 (by decide) (by omega) (by decide) (fun h_81 => ?_) (fun h_81 => ?_)
          · refine tz_iconst (pc := 90) dX10_joined_90 ?_
            exact tz_zret (pc := 91) (z := 1) dX10_joined_91 rfl (Or.inr rfl) (Nat.le_of_ble_eq_true rfl) (Nat.le_of_ble_eq_true rfl) ⟨Nat.le_refl _, Nat.le_add_right _ _⟩ ⟨_, rfl, (by decide), ⟨(UW.p8 (UW.p7 (UW.rf hU) hx ax) (by first | exact hq9 | exact hp9)), hP.of rfl rfl rfl, by omega, (zOf.up rfl (zOf.up rfl zOf.rf))⟩⟩
          · refine tz_iload (pc := 84) dX10_joined_84 rfl ?_
            refine tz_iconst (pc := 86) dX10_joined_86 ?_
            refine tz_icmp_ne (pc := 87) (tgt := 92) dX10_joined_87 (by decide) (by omega) (by decide) (fun h_87 => ?_) (fun h_87 => ?_)
            · have hp0 := hp9.resolve_left (by omega)
              have hq0 := hq9.resolve_left (by omega)
              have hpr := hp0.rg hm
              have hqr := hq0.rg hm
              have hpt := hp0.ix hm
              have hqt := hq0.ix hm
              refine tz_aload_n (pc := 92) dX10_joined_92 rfl rfl ?_
              refine tz_fR (pc := 93) dX10_joined_93 fl_X10_46 r_145_0 ?_
              refine tz_fR (pc := 96) dX10_joined_96 fl_X10_84 r_6_1 ?_
              refine tz_aload_n (pc := 99) dX10_joined_99 rfl rfl ?_
              refine tz_iload_n (pc := 100) dX10_joined_100 rfl rfl ?_
              refine tz_cV (pc := 101) (c_uTerm hl n _ _ (by omega) (by omega)) vl_X10_68 dX10_joined_101 o_145 rfl rfl (Nat.le_of_ble_eq_true rfl) ⟨(Nat.le_of_ble_eq_true rfl), (Nat.le_of_ble_eq_true rfl)⟩ rfl rfl (Nat.le_of_ble_eq_true rfl) (Nat.le_of_ble_eq_true rfl) (fun r9 J_101 hq9 => ?_)
              obtain ⟨z_101, rfl, hz_101, rfl, rfl⟩ := hq9
              refine tz_aL (pc := 104) (z := (tm (J 148 x))) (v := (J 7 (tm (J 148 x)))) dX10_joined_104 a_7 rfl (by omega) rfl (fun r_104 => ?_)
              refine tz_aload_n (pc := 105) dX10_joined_105 rfl rfl ?_
              refine tz_fR (pc := 106) dX10_joined_106 fl_X10_46 r_145_0 ?_
              refine tz_fR (pc := 109) dX10_joined_109 fl_X10_84 r_6_1 ?_
              refine tz_aload_n (pc := 112) dX10_joined_112 rfl rfl ?_
              refine tz_iload (pc := 113) dX10_joined_113 rfl ?_
              refine tz_cV (pc := 115) (c_uTerm hl n _ _ (by omega) (by omega)) vl_X10_68 dX10_joined_115 o_145 rfl rfl (Nat.le_of_ble_eq_true rfl) ⟨(Nat.le_of_ble_eq_true rfl), (Nat.le_of_ble_eq_true rfl)⟩ rfl rfl (Nat.le_of_ble_eq_true rfl) (Nat.le_of_ble_eq_true rfl) (fun r9 J_115 hq9 => ?_)
              obtain ⟨z_115, rfl, hz_115, rfl, rfl⟩ := hq9
              refine tz_aL (pc := 118) (z := (tm (J 148 y))) (v := (J 7 (tm (J 148 y)))) dX10_joined_118 a_7 rfl (by omega) rfl (fun r_118 => ?_)
              refine tz_icmp_eq (pc := 119) (tgt := 124) dX10_joined_119 (by decide) (by omega) (by omega) (fun h_119 => ?_) (fun h_119 => ?_)
              · refine tz_iconst (pc := 124) dX10_joined_124 ?_
                refine tz_istore (pc := 125) (L2 := [_, _, _, _, _, _]) dX10_joined_125 (by decide) rfl ?_
                have loop127 : ∀ (f9 : Nat) (i : Int) (J1 : zJ), ((3 - i).toNat) < f9 → (0 ≤ i ∧ i ≤ J 8 (tm (J 148 x))) → (UW J1 J b m) → (PI J1 b m) → (zOf (zbut [145, 147, 148, 149, 151, 152]) J1 J) → tz_At l G M_X10_joined (tb_rm 2 0 0) none (tb_ZM G 0 0 (zQ n 0 (zqi (fun z J' => UW J' J b m ∧ PI J' b m ∧ (z = 0 ∨ z = 1) ∧ zOf (zbut [145, 147, 148, 149, 151, 152]) J' J))) (zX n 0 zN)) 0 0 n J1 127 [some (.ref 145), some (zi x), some (zi y), some (zi (J 148 x)), some (zi (J 148 y)), some (zi i)] [] := by
                  intro f9
                  induction f9 with
                  | zero => intro i J1 hm9; exact absurd hm9 (Nat.not_lt_zero _)
                  | succ f9 ih127 =>
                    intro i J1 hm127 hi hw hP1 fr
                    have he := C.arh hpt hqt (by omega)
                    have ha8 := C.ar hpt.1 hpt.2
                    have e8 := congrFun (fr 8 rfl) (tm (J 148 x))
                    have e8q := congrFun (fr 8 rfl) (tm (J 148 y))
                    refine tz_iload (pc := 127) dX10_joined_127 rfl ?_
                    refine tz_aload_n (pc := 129) dX10_joined_129 rfl rfl ?_
                    refine tz_fR (pc := 130) dX10_joined_130 fl_X10_46 r_145_0 ?_
                    refine tz_fR (pc := 133) dX10_joined_133 fl_X10_90 r_6_2 ?_
                    refine tz_aload_n (pc := 136) dX10_joined_136 rfl rfl ?_
                    refine tz_iload_n (pc := 137) dX10_joined_137 rfl rfl ?_
                    refine tz_cV (pc := 138) (c_uTerm hl n _ _ (by omega) (by omega)) vl_X10_68 dX10_joined_138 o_145 rfl rfl (Nat.le_of_ble_eq_true rfl) ⟨(Nat.le_of_ble_eq_true rfl), (Nat.le_of_ble_eq_true rfl)⟩ rfl rfl (Nat.le_of_ble_eq_true rfl) (Nat.le_of_ble_eq_true rfl) (fun r9 J_138 hq9 => ?_)
                    obtain ⟨z_138, rfl, hz_138, rfl, rfl⟩ := hq9
                    refine tz_aL (pc := 141) (z := (tm (J 148 x))) (v := (J 8 (tm (J 148 x)))) dX10_joined_141 a_8 rfl (by omega) (Eq.trans (congrFun (fr 8 rfl) (tm (J 148 x))) rfl) (fun r_141 => ?_)
                    refine tz_icmp_ge (pc := 142) (tgt := 170) dX10_joined_142 (by decide) (by omega) (by omega) (fun h_142 => ?_) (fun h_142 => ?_)
                    · refine tz_iconst (pc := 170) dX10_joined_170 ?_
                      exact tz_zret (pc := 171) (z := 1) dX10_joined_171 rfl (Or.inr rfl) (Nat.le_of_ble_eq_true rfl) (Nat.le_of_ble_eq_true rfl) ⟨Nat.le_refl _, Nat.le_add_right _ _⟩ ⟨_, rfl, (by decide), ⟨hw, hP1, by omega, fr⟩⟩
                    · refine tz_aload_n (pc := 145) dX10_joined_145 rfl rfl ?_
                      refine tz_aload_n (pc := 146) dX10_joined_146 rfl rfl ?_
                      refine tz_iload_n (pc := 147) dX10_joined_147 rfl rfl ?_
                      refine tz_iload (pc := 148) dX10_joined_148 rfl ?_
                      refine tz_cV (pc := 150) (c_part hl n _ _ _ (by omega) (by omega) b m (C.of (fun c hc => fr c (by simp [zbut]; omega))) hp0 (by rw [fr 8 rfl]; omega)) vl_X10_93 dX10_joined_150 o_145 rfl rfl (Nat.le_of_ble_eq_true rfl) ⟨(Nat.le_of_ble_eq_true rfl), (Nat.le_of_ble_eq_true rfl)⟩ rfl rfl (Nat.le_of_ble_eq_true rfl) (Nat.le_of_ble_eq_true rfl) (fun r9 J_150 hq9 => ?_)
                      obtain ⟨z_150, rfl, hz_150, rfl, hn_150⟩ := hq9
                      refine tz_aload_n (pc := 153) dX10_joined_153 rfl rfl ?_
                      refine tz_iload (pc := 154) dX10_joined_154 rfl ?_
                      refine tz_iload (pc := 156) dX10_joined_156 rfl ?_
                      refine tz_cV (pc := 158) (c_part hl n _ _ _ (by omega) (by omega) b m (C.of (fun c hc => fr c (by simp [zbut]; omega))) hq0 (by rw [fr 8 rfl]; omega)) vl_X10_93 dX10_joined_158 o_145 rfl rfl (Nat.le_of_ble_eq_true rfl) ⟨(Nat.le_of_ble_eq_true rfl), (Nat.le_of_ble_eq_true rfl)⟩ rfl rfl (Nat.le_of_ble_eq_true rfl) (Nat.le_of_ble_eq_true rfl) (fun r9 J_158 hq9 => ?_)
                      obtain ⟨z_158, rfl, hz_158, rfl, hn_158⟩ := hq9
                      refine tz_cV (pc := 161) (c_addPair hl n _ _ _ (by omega) (by omega) b m hP1 hn_150 hn_158) vl_X10_50 dX10_joined_161 o_145 rfl rfl (Nat.le_of_ble_eq_true rfl) ⟨(Nat.le_of_ble_eq_true rfl), (Nat.le_of_ble_eq_true rfl)⟩ rfl rfl (Nat.le_of_ble_eq_true rfl) (Nat.le_of_ble_eq_true rfl) (fun r9 J_161 hq9 => ?_)
                      obtain ⟨rfl, k1, k2, k3⟩ := hq9
                      refine tz_iinc (pc := 164) (z := i + 1) (L2 := [_, _, _, _, _, _]) dX10_joined_164 rfl (by omega) rfl ?_
                      refine tz_goto (pc := 167) (tgt := 127) dX10_joined_167 (by decide) ?_
                      exact ih127 (i + 1) _ (by omega) (by omega) (hw.of (Int.le_refl _) k2 (fun c hc => k3 c (by simp [zbut]; omega))) k1 ((k3.mono (fun c hc => by simp [zbut] at hc ⊢; omega)).tr fr)
                exact loop127 _ 0 _ (Nat.lt_succ_self _) (by have := C.ar hpt.1 hpt.2; omega) (UW.p8 (UW.p7 (UW.rf hU) hx ax) (by first | exact hq9 | exact hp9)) (hP.of rfl rfl rfl) (zOf.up rfl (zOf.up rfl zOf.rf))
              · refine tz_iconst (pc := 122) dX10_joined_122 ?_
                exact tz_zret (pc := 123) (z := 0) dX10_joined_123 rfl (Or.inl rfl) (Nat.le_of_ble_eq_true rfl) (Nat.le_of_ble_eq_true rfl) ⟨Nat.le_refl _, Nat.le_add_right _ _⟩ ⟨_, rfl, (by decide), ⟨(UW.p8 (UW.p7 (UW.rf hU) hx ax) (by first | exact hq9 | exact hp9)), hP.of rfl rfl rfl, by omega, (zOf.up rfl (zOf.up rfl zOf.rf))⟩⟩
            · refine tz_iconst (pc := 90) dX10_joined_90 ?_
              exact tz_zret (pc := 91) (z := 1) dX10_joined_91 rfl (Or.inr rfl) (Nat.le_of_ble_eq_true rfl) (Nat.le_of_ble_eq_true rfl) ⟨Nat.le_refl _, Nat.le_add_right _ _⟩ ⟨_, rfl, (by decide), ⟨(UW.p8 (UW.p7 (UW.rf hU) hx ax) (by first | exact hq9 | exact hp9)), hP.of rfl rfl rfl, by omega, (zOf.up rfl (zOf.up rfl zOf.rf))⟩⟩
        · refine tz_aload_n (pc := 57) dX10_joined_57 rfl rfl ?_
          refine tz_fR (pc := 58) dX10_joined_58 fl_X10_21 r_145_4 ?_
          refine tz_iload_n (pc := 61) dX10_joined_61 rfl rfl ?_
          refine tz_aload_n (pc := 62) dX10_joined_62 rfl rfl ?_
          refine tz_aload_n (pc := 63) dX10_joined_63 rfl rfl ?_
          refine tz_fR (pc := 64) dX10_joined_64 fl_X10_21 r_145_4 ?_
          refine tz_iload_n (pc := 67) dX10_joined_67 rfl rfl ?_
          refine tz_aL (pc := 68) (z := x) (v := (J 149 x)) dX10_joined_68 a_149 rfl (by omega) rfl (fun r_68 => ?_)
          refine tz_aload_n (pc := 69) dX10_joined_69 rfl rfl ?_
          refine tz_fR (pc := 70) dX10_joined_70 fl_X10_21 r_145_4 ?_
          refine tz_iload_n (pc := 73) dX10_joined_73 rfl rfl ?_
          refine tz_aL (pc := 74) (z := y) (v := (J 149 y)) dX10_joined_74 a_149 rfl (by omega) rfl (fun r_74 => ?_)
          refine tz_cV (pc := 75) (c_lesser hl n _ _ _ (by omega) (by omega) b m hm ux.2.2.2.1 uy.2.2.2.1) vl_X10_87 dX10_joined_75 o_145 rfl rfl (Nat.le_of_ble_eq_true rfl) ⟨(Nat.le_of_ble_eq_true rfl), (Nat.le_of_ble_eq_true rfl)⟩ rfl rfl (Nat.le_of_ble_eq_true rfl) (Nat.le_of_ble_eq_true rfl) (fun r9 J_75 hq9 => ?_)
          obtain ⟨zl9, rfl, hz_75, rfl, hlz⟩ := hq9
          have hl9 : nd b m zl9 := by rcases hlz with e | e <;> rw [e] <;> first | exact ux.2.2.2.1 | exact uy.2.2.2.1
          have hl8 := hl9.rg hm
          refine tz_aS (pc := 78) (z := x) dX10_joined_78 a_149 rfl (by omega) (by omega) ?_
          refine tz_iload_n (pc := 79) dX10_joined_79 rfl rfl ?_
          refine tz_iconst (pc := 80) dX10_joined_80 ?_
          refine tz_icmp_eq (pc := 81) (tgt := 90) dX10_joined_81 (by decide) (by omega) (by decide) (fun h_81 => ?_) (fun h_81 => ?_)
          · refine tz_iconst (pc := 90) dX10_joined_90 ?_
            exact tz_zret (pc := 91) (z := 1) dX10_joined_91 rfl (Or.inr rfl) (Nat.le_of_ble_eq_true rfl) (Nat.le_of_ble_eq_true rfl) ⟨Nat.le_refl _, Nat.le_add_right _ _⟩ ⟨_, rfl, (by decide), ⟨(UW.p9 (UW.p8 (UW.p7 (UW.rf hU) hx ax) (by first | exact hq9 | exact hp9)) hl9), hP.of rfl rfl rfl, by omega, (zOf.up rfl (zOf.up rfl (zOf.up rfl zOf.rf)))⟩⟩
          · refine tz_iload (pc := 84) dX10_joined_84 rfl ?_
            refine tz_iconst (pc := 86) dX10_joined_86 ?_
            refine tz_icmp_ne (pc := 87) (tgt := 92) dX10_joined_87 (by decide) (by omega) (by decide) (fun h_87 => ?_) (fun h_87 => ?_)
            · have hp0 := hp9.resolve_left (by omega)
              have hq0 := hq9.resolve_left (by omega)
              have hpr := hp0.rg hm
              have hqr := hq0.rg hm
              have hpt := hp0.ix hm
              have hqt := hq0.ix hm
              refine tz_aload_n (pc := 92) dX10_joined_92 rfl rfl ?_
              refine tz_fR (pc := 93) dX10_joined_93 fl_X10_46 r_145_0 ?_
              refine tz_fR (pc := 96) dX10_joined_96 fl_X10_84 r_6_1 ?_
              refine tz_aload_n (pc := 99) dX10_joined_99 rfl rfl ?_
              refine tz_iload_n (pc := 100) dX10_joined_100 rfl rfl ?_
              refine tz_cV (pc := 101) (c_uTerm hl n _ _ (by omega) (by omega)) vl_X10_68 dX10_joined_101 o_145 rfl rfl (Nat.le_of_ble_eq_true rfl) ⟨(Nat.le_of_ble_eq_true rfl), (Nat.le_of_ble_eq_true rfl)⟩ rfl rfl (Nat.le_of_ble_eq_true rfl) (Nat.le_of_ble_eq_true rfl) (fun r9 J_101 hq9 => ?_)
              obtain ⟨z_101, rfl, hz_101, rfl, rfl⟩ := hq9
              refine tz_aL (pc := 104) (z := (tm (J 148 x))) (v := (J 7 (tm (J 148 x)))) dX10_joined_104 a_7 rfl (by omega) rfl (fun r_104 => ?_)
              refine tz_aload_n (pc := 105) dX10_joined_105 rfl rfl ?_
              refine tz_fR (pc := 106) dX10_joined_106 fl_X10_46 r_145_0 ?_
              refine tz_fR (pc := 109) dX10_joined_109 fl_X10_84 r_6_1 ?_
              refine tz_aload_n (pc := 112) dX10_joined_112 rfl rfl ?_
              refine tz_iload (pc := 113) dX10_joined_113 rfl ?_
              refine tz_cV (pc := 115) (c_uTerm hl n _ _ (by omega) (by omega)) vl_X10_68 dX10_joined_115 o_145 rfl rfl (Nat.le_of_ble_eq_true rfl) ⟨(Nat.le_of_ble_eq_true rfl), (Nat.le_of_ble_eq_true rfl)⟩ rfl rfl (Nat.le_of_ble_eq_true rfl) (Nat.le_of_ble_eq_true rfl) (fun r9 J_115 hq9 => ?_)
              obtain ⟨z_115, rfl, hz_115, rfl, rfl⟩ := hq9
              refine tz_aL (pc := 118) (z := (tm (J 148 y))) (v := (J 7 (tm (J 148 y)))) dX10_joined_118 a_7 rfl (by omega) rfl (fun r_118 => ?_)
              refine tz_icmp_eq (pc := 119) (tgt := 124) dX10_joined_119 (by decide) (by omega) (by omega) (fun h_119 => ?_) (fun h_119 => ?_)
              · refine tz_iconst (pc := 124) dX10_joined_124 ?_
                refine tz_istore (pc := 125) (L2 := [_, _, _, _, _, _]) dX10_joined_125 (by decide) rfl ?_
                have loop127 : ∀ (f9 : Nat) (i : Int) (J1 : zJ), ((3 - i).toNat) < f9 → (0 ≤ i ∧ i ≤ J 8 (tm (J 148 x))) → (UW J1 J b m) → (PI J1 b m) → (zOf (zbut [145, 147, 148, 149, 151, 152]) J1 J) → tz_At l G M_X10_joined (tb_rm 2 0 0) none (tb_ZM G 0 0 (zQ n 0 (zqi (fun z J' => UW J' J b m ∧ PI J' b m ∧ (z = 0 ∨ z = 1) ∧ zOf (zbut [145, 147, 148, 149, 151, 152]) J' J))) (zX n 0 zN)) 0 0 n J1 127 [some (.ref 145), some (zi x), some (zi y), some (zi (J 148 x)), some (zi (J 148 y)), some (zi i)] [] := by
                  intro f9
                  induction f9 with
                  | zero => intro i J1 hm9; exact absurd hm9 (Nat.not_lt_zero _)
                  | succ f9 ih127 =>
                    intro i J1 hm127 hi hw hP1 fr
                    have he := C.arh hpt hqt (by omega)
                    have ha8 := C.ar hpt.1 hpt.2
                    have e8 := congrFun (fr 8 rfl) (tm (J 148 x))
                    have e8q := congrFun (fr 8 rfl) (tm (J 148 y))
                    refine tz_iload (pc := 127) dX10_joined_127 rfl ?_
                    refine tz_aload_n (pc := 129) dX10_joined_129 rfl rfl ?_
                    refine tz_fR (pc := 130) dX10_joined_130 fl_X10_46 r_145_0 ?_
                    refine tz_fR (pc := 133) dX10_joined_133 fl_X10_90 r_6_2 ?_
                    refine tz_aload_n (pc := 136) dX10_joined_136 rfl rfl ?_
                    refine tz_iload_n (pc := 137) dX10_joined_137 rfl rfl ?_
                    refine tz_cV (pc := 138) (c_uTerm hl n _ _ (by omega) (by omega)) vl_X10_68 dX10_joined_138 o_145 rfl rfl (Nat.le_of_ble_eq_true rfl) ⟨(Nat.le_of_ble_eq_true rfl), (Nat.le_of_ble_eq_true rfl)⟩ rfl rfl (Nat.le_of_ble_eq_true rfl) (Nat.le_of_ble_eq_true rfl) (fun r9 J_138 hq9 => ?_)
                    obtain ⟨z_138, rfl, hz_138, rfl, rfl⟩ := hq9
                    refine tz_aL (pc := 141) (z := (tm (J 148 x))) (v := (J 8 (tm (J 148 x)))) dX10_joined_141 a_8 rfl (by omega) (Eq.trans (congrFun (fr 8 rfl) (tm (J 148 x))) rfl) (fun r_141 => ?_)
                    refine tz_icmp_ge (pc := 142) (tgt := 170) dX10_joined_142 (by decide) (by omega) (by omega) (fun h_142 => ?_) (fun h_142 => ?_)
                    · refine tz_iconst (pc := 170) dX10_joined_170 ?_
                      exact tz_zret (pc := 171) (z := 1) dX10_joined_171 rfl (Or.inr rfl) (Nat.le_of_ble_eq_true rfl) (Nat.le_of_ble_eq_true rfl) ⟨Nat.le_refl _, Nat.le_add_right _ _⟩ ⟨_, rfl, (by decide), ⟨hw, hP1, by omega, fr⟩⟩
                    · refine tz_aload_n (pc := 145) dX10_joined_145 rfl rfl ?_
                      refine tz_aload_n (pc := 146) dX10_joined_146 rfl rfl ?_
                      refine tz_iload_n (pc := 147) dX10_joined_147 rfl rfl ?_
                      refine tz_iload (pc := 148) dX10_joined_148 rfl ?_
                      refine tz_cV (pc := 150) (c_part hl n _ _ _ (by omega) (by omega) b m (C.of (fun c hc => fr c (by simp [zbut]; omega))) hp0 (by rw [fr 8 rfl]; omega)) vl_X10_93 dX10_joined_150 o_145 rfl rfl (Nat.le_of_ble_eq_true rfl) ⟨(Nat.le_of_ble_eq_true rfl), (Nat.le_of_ble_eq_true rfl)⟩ rfl rfl (Nat.le_of_ble_eq_true rfl) (Nat.le_of_ble_eq_true rfl) (fun r9 J_150 hq9 => ?_)
                      obtain ⟨z_150, rfl, hz_150, rfl, hn_150⟩ := hq9
                      refine tz_aload_n (pc := 153) dX10_joined_153 rfl rfl ?_
                      refine tz_iload (pc := 154) dX10_joined_154 rfl ?_
                      refine tz_iload (pc := 156) dX10_joined_156 rfl ?_
                      refine tz_cV (pc := 158) (c_part hl n _ _ _ (by omega) (by omega) b m (C.of (fun c hc => fr c (by simp [zbut]; omega))) hq0 (by rw [fr 8 rfl]; omega)) vl_X10_93 dX10_joined_158 o_145 rfl rfl (Nat.le_of_ble_eq_true rfl) ⟨(Nat.le_of_ble_eq_true rfl), (Nat.le_of_ble_eq_true rfl)⟩ rfl rfl (Nat.le_of_ble_eq_true rfl) (Nat.le_of_ble_eq_true rfl) (fun r9 J_158 hq9 => ?_)
                      obtain ⟨z_158, rfl, hz_158, rfl, hn_158⟩ := hq9
                      refine tz_cV (pc := 161) (c_addPair hl n _ _ _ (by omega) (by omega) b m hP1 hn_150 hn_158) vl_X10_50 dX10_joined_161 o_145 rfl rfl (Nat.le_of_ble_eq_true rfl) ⟨(Nat.le_of_ble_eq_true rfl), (Nat.le_of_ble_eq_true rfl)⟩ rfl rfl (Nat.le_of_ble_eq_true rfl) (Nat.le_of_ble_eq_true rfl) (fun r9 J_161 hq9 => ?_)
                      obtain ⟨rfl, k1, k2, k3⟩ := hq9
                      refine tz_iinc (pc := 164) (z := i + 1) (L2 := [_, _, _, _, _, _]) dX10_joined_164 rfl (by omega) rfl ?_
                      refine tz_goto (pc := 167) (tgt := 127) dX10_joined_167 (by decide) ?_
                      exact ih127 (i + 1) _ (by omega) (by omega) (hw.of (Int.le_refl _) k2 (fun c hc => k3 c (by simp [zbut]; omega))) k1 ((k3.mono (fun c hc => by simp [zbut] at hc ⊢; omega)).tr fr)
                exact loop127 _ 0 _ (Nat.lt_succ_self _) (by have := C.ar hpt.1 hpt.2; omega) (UW.p9 (UW.p8 (UW.p7 (UW.rf hU) hx ax) (by first | exact hq9 | exact hp9)) hl9) (hP.of rfl rfl rfl) (zOf.up rfl (zOf.up rfl (zOf.up rfl zOf.rf)))
              · refine tz_iconst (pc := 122) dX10_joined_122 ?_
                exact tz_zret (pc := 123) (z := 0) dX10_joined_123 rfl (Or.inl rfl) (Nat.le_of_ble_eq_true rfl) (Nat.le_of_ble_eq_true rfl) ⟨Nat.le_refl _, Nat.le_add_right _ _⟩ ⟨_, rfl, (by decide), ⟨(UW.p9 (UW.p8 (UW.p7 (UW.rf hU) hx ax) (by first | exact hq9 | exact hp9)) hl9), hP.of rfl rfl rfl, by omega, (zOf.up rfl (zOf.up rfl (zOf.up rfl zOf.rf)))⟩⟩
            · refine tz_iconst (pc := 90) dX10_joined_90 ?_
              exact tz_zret (pc := 91) (z := 1) dX10_joined_91 rfl (Or.inr rfl) (Nat.le_of_ble_eq_true rfl) (Nat.le_of_ble_eq_true rfl) ⟨Nat.le_refl _, Nat.le_add_right _ _⟩ ⟨_, rfl, (by decide), ⟨(UW.p9 (UW.p8 (UW.p7 (UW.rf hU) hx ax) (by first | exact hq9 | exact hp9)) hl9), hP.of rfl rfl rfl, by omega, (zOf.up rfl (zOf.up rfl (zOf.up rfl zOf.rf)))⟩⟩
  · refine tz_iconst (pc := 5) dX10_joined_5 ?_
    exact tz_zret (pc := 6) (z := 1) dX10_joined_6 rfl (Or.inr rfl) (Nat.le_of_ble_eq_true rfl) (Nat.le_of_ble_eq_true rfl) ⟨Nat.le_refl _, Nat.le_add_right _ _⟩ ⟨_, rfl, (by decide), ⟨(UW.rf hU), hP.of rfl rfl rfl, by omega, zOf.rf⟩⟩

