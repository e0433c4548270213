section
set_option maxHeartbeats 4000000 in
set_option maxRecDepth 100000 in
theorem c_uTerm {l : Launch} {G : tb_G} (hl : l.stackTraces = false) (n : Nat) (J : zJ) (x : Int) (hr_x : -2147483648 ≤ x ∧ x < 2147483648)  (h0 : 0 ≤ x ∧ x < 800) : tz_Ok l G M_X10_termOf 0 0 0 [.ref 145, zi x] n J (zqi (fun z J' => J = J' ∧ tm x = z)) zN := by
  refine tz_Ok.of hl (by decide +kernel) rfl (tb_c1 rfl) (Nat.le_of_ble_eq_true rfl) ?_
  show tz_At l G M_X10_termOf (tb_rm 0 0 0) none (tb_ZM G 0 0 (zQ n 0 (zqi (fun z J' => J = J' ∧ tm x = z))) (zX n 0 zN)) 0 0 n J 0 [some (.ref 145), some (zi x)] []
  refine tz_iload_n (pc := 0) dX10_termOf_0 rfl rfl ?_
  refine tz_sipush (pc := 1) dX10_termOf_1 (by decide) ?_
  refine tz_icmp_ge (pc := 4) (tgt := 11) dX10_termOf_4 (by decide) (by omega) (by decide) (fun h_4 => ?_) (fun h_4 => ?_)
  · refine tz_iload_n (pc := 11) dX10_termOf_11 rfl rfl ?_
    refine tz_sipush (pc := 12) dX10_termOf_12 (by decide) ?_
    refine tz_isub (pc := 15) (v := x - 400) dX10_termOf_15 rfl ?_
    exact tz_iret (pc := 16) (z := (x - 400)) dX10_termOf_16 rfl (Nat.le_of_ble_eq_true rfl) (Nat.le_of_ble_eq_true rfl) ⟨Nat.le_refl _, Nat.le_add_right _ _⟩ ⟨_, rfl, (by omega), ⟨rfl, by unfold tm; split <;> omega⟩⟩
  · refine tz_iload_n (pc := 7) dX10_termOf_7 rfl rfl ?_
    refine tz_goto (pc := 8) (tgt := 16) dX10_termOf_8 (by decide) ?_
    exact tz_iret (pc := 16) (z := x) dX10_termOf_16 rfl (Nat.le_of_ble_eq_true rfl) (Nat.le_of_ble_eq_true rfl) ⟨Nat.le_refl _, Nat.le_add_right _ _⟩ ⟨_, rfl, (by omega), ⟨rfl, by unfold tm; split <;> omega⟩⟩

set_option maxHeartbeats 4000000 in
set_option maxRecDepth 100000 in
theorem c_uSide {l : Launch} {G : tb_G} (hl : l.stackTraces = false) (n : Nat) (J : zJ) (x : Int) (hr_x : -2147483648 ≤ x ∧ x < 2147483648)  (h0 : 0 ≤ x ∧ x < 800) : tz_Ok l G M_X10_sideOf 0 0 0 [.ref 145, zi x] n J (zqi (fun z J' => J = J' ∧ sd x = z)) zN := by
  refine tz_Ok.of hl (by decide +kernel) rfl (tb_c1 rfl) (Nat.le_of_ble_eq_true rfl) ?_
  show tz_At l G M_X10_sideOf (tb_rm 0 0 0) none (tb_ZM G 0 0 (zQ n 0 (zqi (fun z J' => J = J' ∧ sd x = z))) (zX n 0 zN)) 0 0 n J 0 [some (.ref 145), some (zi x)] []
  refine tz_iload_n (pc := 0) dX10_sideOf_0 rfl rfl ?_
  refine tz_sipush (pc := 1) dX10_sideOf_1 (by decide) ?_
  refine tz_icmp_ge (pc := 4) (tgt := 11) dX10_sideOf_4 (by decide) (by omega) (by decide) (fun h_4 => ?_) (fun h_4 => ?_)
  · refine tz_sipush (pc := 11) dX10_sideOf_11 (by decide) ?_
    exact tz_iret (pc := 14) (z := 400) dX10_sideOf_14 rfl (Nat.le_of_ble_eq_true rfl) (Nat.le_of_ble_eq_true rfl) ⟨Nat.le_refl _, Nat.le_add_right _ _⟩ ⟨_, rfl, (by decide), ⟨rfl, by unfold sd; split <;> omega⟩⟩
  · refine tz_iconst (pc := 7) dX10_sideOf_7 ?_
    refine tz_goto (pc := 8) (tgt := 14) dX10_sideOf_8 (by decide) ?_
    exact tz_iret (pc := 14) (z := 0) dX10_sideOf_14 rfl (Nat.le_of_ble_eq_true rfl) (Nat.le_of_ble_eq_true rfl) ⟨Nat.le_refl _, Nat.le_add_right _ _⟩ ⟨_, rfl, (by decide), ⟨rfl, by unfold sd; split <;> omega⟩⟩

set_option maxHeartbeats 4000000 in
set_option maxRecDepth 100000 in
theorem c_part {l : Launch} {G : tb_G} (hl : l.stackTraces = false) (n : Nat) (J : zJ) (x : Int) (i : Int) (hr_x : -2147483648 ≤ x ∧ x < 2147483648) (hr_i : -2147483648 ≤ i ∧ i < 2147483648) (b m : Int) (C : CT J m) (hx : nd b m x) (hi : 0 ≤ i ∧ i < J 8 (tm x)) : tz_Ok l G M_X10_partOf 1 0 0 [.ref 145, zi x, zi i] n J (zqi (fun z J' => J = J' ∧ nd b m z)) zN := by
  refine tz_Ok.of hl (by decide +kernel) rfl (tb_c1 rfl) (Nat.le_of_ble_eq_true rfl) ?_
  show tz_At l G M_X10_partOf (tb_rm 1 0 0) none (tb_ZM G 0 0 (zQ n 0 (zqi (fun z J' => J = J' ∧ nd b m z))) (zX n 0 zN)) 0 0 n J 0 [some (.ref 145), some (zi x), some (zi i)] []
  have hb := C.told
  have ht := hx.ix hb.2
  have hx2 := hx.rg hb.2
  have ha := C.arg ht.1 ht.2 hi.1 hi.2
  have ha8 := (C.ar ht.1 ht.2).1
  have hs := sd_rg x
  refine tz_aload_n (pc := 0) dX10_partOf_0 rfl rfl ?_
  refine tz_fR (pc := 1) dX10_partOf_1 fl_X10_46 r_145_0 ?_
  refine tz_aload_n (pc := 4) dX10_partOf_4 rfl rfl ?_
  refine tz_iload_n (pc := 5) dX10_partOf_5 rfl rfl ?_
  refine tz_cV (pc := 6) (c_uTerm hl n _ _ (by omega) (by omega)) vl_X10_68 dX10_partOf_6 o_145 rfl rfl (Nat.le_of_ble_eq_true rfl) ⟨(Nat.le_of_ble_eq_true rfl), (Nat.le_of_ble_eq_true rfl)⟩ rfl rfl (Nat.le_of_ble_eq_true rfl) (Nat.le_of_ble_eq_true rfl) (fun r9 J_6 hq9 => ?_)
  obtain ⟨z_6, rfl, hz_6, rfl, rfl⟩ := hq9
  refine tz_iload_n (pc := 9) dX10_partOf_9 rfl rfl ?_
  refine tz_cV (pc := 10) (c_arg hl n _ _ _ (by omega) (by omega) (by omega)) vl_X10_71 dX10_partOf_10 o_6 rfl rfl (Nat.le_of_ble_eq_true rfl) ⟨(Nat.le_of_ble_eq_true rfl), (Nat.le_of_ble_eq_true rfl)⟩ rfl rfl (Nat.le_of_ble_eq_true rfl) (Nat.le_of_ble_eq_true rfl) (fun r9 J_10 hq9 => ?_)
  obtain ⟨z_10, rfl, hz_10, rfl, rfl⟩ := hq9
  refine tz_aload_n (pc := 13) dX10_partOf_13 rfl rfl ?_
  refine tz_iload_n (pc := 14) dX10_partOf_14 rfl rfl ?_
  refine tz_cV (pc := 15) (c_uSide hl n _ _ (by omega) (by omega)) vl_X10_77 dX10_partOf_15 o_145 rfl rfl (Nat.le_of_ble_eq_true rfl) ⟨(Nat.le_of_ble_eq_true rfl), (Nat.le_of_ble_eq_true rfl)⟩ rfl rfl (Nat.le_of_ble_eq_true rfl) (Nat.le_of_ble_eq_true rfl) (fun r9 J_15 hq9 => ?_)
  obtain ⟨z_15, rfl, hz_15, rfl, rfl⟩ := hq9
  refine tz_iadd (pc := 18) (v := (J 9 (tm x * 3 + i)) + (sd x)) dX10_partOf_18 rfl ?_
  exact tz_iret (pc := 19) (z := ((J 9 (tm x * 3 + i)) + (sd x))) dX10_partOf_19 rfl (Nat.le_of_ble_eq_true rfl) (Nat.le_of_ble_eq_true rfl) ⟨Nat.le_refl _, Nat.le_add_right _ _⟩ ⟨_, rfl, (by omega), ⟨rfl, hx.part hb.2 (by omega)⟩⟩

set_option maxHeartbeats 4000000 in
set_option maxRecDepth 100000 in
theorem c_wake {l : Launch} {G : tb_G} (hl : l.stackTraces = false) (n : Nat) (J : zJ) (x : Int) (hr_x : -2147483648 ≤ x ∧ x < 2147483648) (b m : Int) (hm : 0 ≤ m ∧ m ≤ 400) (hx : nd b m x) (hU : UI J b m) : tz_Ok l G M_X10_wake 1 0 0 [.ref 145, zi x] n J (zqv (fun J' => (UW J' J b m ∧ J' 146 x = J 145 10) ∧ zOf (zbut [146, 147, 148, 149, 150, 154]) J' J)) zN := by
  refine tz_Ok.of hl (by decide +kernel) rfl (tb_c1 rfl) (Nat.le_of_ble_eq_true rfl) ?_
  show tz_At l G M_X10_wake (tb_rm 1 0 0) none (tb_ZM G 0 0 (zQ n 0 (zqv (fun J' => (UW J' J b m ∧ J' 146 x = J 145 10) ∧ zOf (zbut [146, 147, 148, 149, 150, 154]) J' J))) (zX n 0 zN)) 0 0 n J 0 [some (.ref 145), some (zi x), none] []
  have ht := hx.ix hm
  have hx2 := hx.rg hm
  refine tz_aload_n (pc := 0) dX10_wake_0 rfl rfl ?_
  refine tz_fR (pc := 1) dX10_wake_1 fl_X10_46 r_145_0 ?_
  refine tz_fR (pc := 4) dX10_wake_4 fl_X10_84 r_6_1 ?_
  refine tz_aload_n (pc := 7) dX10_wake_7 rfl rfl ?_
  refine tz_iload_n (pc := 8) dX10_wake_8 rfl rfl ?_
  refine tz_cV (pc := 9) (c_uTerm hl n _ _ (by omega) (by omega)) vl_X10_68 dX10_wake_9 o_145 rfl rfl (Nat.le_of_ble_eq_true rfl) ⟨(Nat.le_of_ble_eq_true rfl), (Nat.le_of_ble_eq_true rfl)⟩ rfl rfl (Nat.le_of_ble_eq_true rfl) (Nat.le_of_ble_eq_true rfl) (fun r9 J_9 hq9 => ?_)
  obtain ⟨z_9, rfl, hz_9, rfl, rfl⟩ := hq9
  refine tz_aL (pc := 12) (z := (tm x)) (v := (J 7 (tm x))) dX10_wake_12 a_7 rfl (by omega) rfl (fun r_12 => ?_)
  refine tz_if_ge (pc := 13) (tgt := 20) dX10_wake_13 (by decide) (by omega) (fun h_13 => ?_) (fun h_13 => ?_)
  · refine tz_iconst (pc := 20) dX10_wake_20 ?_
    refine tz_istore_n (pc := 21) (L2 := [_, _, _]) dX10_wake_21 rfl (by decide) rfl ?_
    refine tz_aload_n (pc := 22) dX10_wake_22 rfl rfl ?_
    refine tz_fR (pc := 23) dX10_wake_23 fl_X10_11 r_145_1 ?_
    refine tz_iload_n (pc := 26) dX10_wake_26 rfl rfl ?_
    refine tz_aload_n (pc := 27) dX10_wake_27 rfl rfl ?_
    refine tz_fI (pc := 28) (kz := 10) (v := (J 145 10)) dX10_wake_28 fl_X10_39 i_145_10 rfl rfl (fun r_28 => ?_)
    refine tz_aS (pc := 31) (z := x) dX10_wake_31 a_146 rfl (by omega) (by omega) ?_
    refine tz_aload_n (pc := 32) dX10_wake_32 rfl rfl ?_
    refine tz_fR (pc := 33) dX10_wake_33 fl_X10_15 r_145_2 ?_
    refine tz_iload_n (pc := 36) dX10_wake_36 rfl rfl ?_
    refine tz_iload_n (pc := 37) dX10_wake_37 rfl rfl ?_
    refine tz_aS (pc := 38) (z := x) dX10_wake_38 a_147 rfl (by omega) (by omega) ?_
    refine tz_aload_n (pc := 39) dX10_wake_39 rfl rfl ?_
    refine tz_fR (pc := 40) dX10_wake_40 fl_X10_18 r_145_3 ?_
    refine tz_iload_n (pc := 43) dX10_wake_43 rfl rfl ?_
    refine tz_iload_n (pc := 44) dX10_wake_44 rfl rfl ?_
    refine tz_if_eqT (pc := 45) (tgt := 52) (by decide) dX10_wake_45 (by decide) (by decide) ?_
    refine tz_iload_n (pc := 52) dX10_wake_52 rfl rfl ?_
    refine tz_aS (pc := 53) (z := x) dX10_wake_53 a_148 rfl (by omega) (by omega) ?_
    refine tz_aload_n (pc := 54) dX10_wake_54 rfl rfl ?_
    refine tz_fR (pc := 55) dX10_wake_55 fl_X10_21 r_145_4 ?_
    refine tz_iload_n (pc := 58) dX10_wake_58 rfl rfl ?_
    refine tz_iload_n (pc := 59) dX10_wake_59 rfl rfl ?_
    refine tz_aS (pc := 60) (z := x) dX10_wake_60 a_149 rfl (by omega) (by omega) ?_
    refine tz_aload_n (pc := 61) dX10_wake_61 rfl rfl ?_
    refine tz_fR (pc := 62) dX10_wake_62 fl_X10_24 r_145_5 ?_
    refine tz_iload_n (pc := 65) dX10_wake_65 rfl rfl ?_
    refine tz_iconst (pc := 66) dX10_wake_66 ?_
    refine tz_aS (pc := 67) (z := x) dX10_wake_67 a_150 rfl (by omega) (by decide) ?_
    refine tz_aload_n (pc := 68) dX10_wake_68 rfl rfl ?_
    refine tz_fR (pc := 69) dX10_wake_69 fl_X10_36 r_145_9 ?_
    refine tz_iload_n (pc := 72) dX10_wake_72 rfl rfl ?_
    refine tz_iconst (pc := 73) dX10_wake_73 ?_
    refine tz_aS (pc := 74) (z := x) dX10_wake_74 a_154 rfl (by omega) (by decide) ?_
    exact tz_vret (pc := 75) dX10_wake_75 rfl (Nat.le_of_ble_eq_true rfl) (Nat.le_of_ble_eq_true rfl) ⟨Nat.le_refl _, Nat.le_add_right _ _⟩ ⟨rfl, ⟨hU.wake hx (by omega), (zOf.up rfl (zOf.up rfl (zOf.up rfl (zOf.up rfl (zOf.up rfl (zOf.up rfl zOf.rf))))))⟩⟩
  · refine tz_iconst (pc := 16) dX10_wake_16 ?_
    refine tz_goto (pc := 17) (tgt := 21) dX10_wake_17 (by decide) ?_
    refine tz_istore_n (pc := 21) (L2 := [_, _, _]) dX10_wake_21 rfl (by decide) rfl ?_
    refine tz_aload_n (pc := 22) dX10_wake_22 rfl rfl ?_
    refine tz_fR (pc := 23) dX10_wake_23 fl_X10_11 r_145_1 ?_
    refine tz_iload_n (pc := 26) dX10_wake_26 rfl rfl ?_
    refine tz_aload_n (pc := 27) dX10_wake_27 rfl rfl ?_
    refine tz_fI (pc := 28) (kz := 10) (v := (J 145 10)) dX10_wake_28 fl_X10_39 i_145_10 rfl rfl (fun r_28 => ?_)
    refine tz_aS (pc := 31) (z := x) dX10_wake_31 a_146 rfl (by omega) (by omega) ?_
    refine tz_aload_n (pc := 32) dX10_wake_32 rfl rfl ?_
    refine tz_fR (pc := 33) dX10_wake_33 fl_X10_15 r_145_2 ?_
    refine tz_iload_n (pc := 36) dX10_wake_36 rfl rfl ?_
    refine tz_iload_n (pc := 37) dX10_wake_37 rfl rfl ?_
    refine tz_aS (pc := 38) (z := x) dX10_wake_38 a_147 rfl (by omega) (by omega) ?_
    refine tz_aload_n (pc := 39) dX10_wake_39 rfl rfl ?_
    refine tz_fR (pc := 40) dX10_wake_40 fl_X10_18 r_145_3 ?_
    refine tz_iload_n (pc := 43) dX10_wake_43 rfl rfl ?_
    refine tz_iload_n (pc := 44) dX10_wake_44 rfl rfl ?_
    refine tz_if_eqF (pc := 45) (tgt := 52) (by decide) dX10_wake_45 (by decide) (by decide) ?_
    refine tz_iconst (pc := 48) dX10_wake_48 ?_
    refine tz_goto (pc := 49) (tgt := 53) dX10_wake_49 (by decide) ?_
    refine tz_aS (pc := 53) (z := x) dX10_wake_53 a_148 rfl (by omega) (by decide) ?_
    refine tz_aload_n (pc := 54) dX10_wake_54 rfl rfl ?_
    refine tz_fR (pc := 55) dX10_wake_55 fl_X10_21 r_145_4 ?_
    refine tz_iload_n (pc := 58) dX10_wake_58 rfl rfl ?_
    refine tz_iload_n (pc := 59) dX10_wake_59 rfl rfl ?_
    refine tz_aS (pc := 60) (z := x) dX10_wake_60 a_149 rfl (by omega) (by omega) ?_
    refine tz_aload_n (pc := 61) dX10_wake_61 rfl rfl ?_
    refine tz_fR (pc := 62) dX10_wake_62 fl_X10_24 r_145_5 ?_
    refine tz_iload_n (pc := 65) dX10_wake_65 rfl rfl ?_
    refine tz_iconst (pc := 66) dX10_wake_66 ?_
    refine tz_aS (pc := 67) (z := x) dX10_wake_67 a_150 rfl (by omega) (by decide) ?_
    refine tz_aload_n (pc := 68) dX10_wake_68 rfl rfl ?_
    refine tz_fR (pc := 69) dX10_wake_69 fl_X10_36 r_145_9 ?_
    refine tz_iload_n (pc := 72) dX10_wake_72 rfl rfl ?_
    refine tz_iconst (pc := 73) dX10_wake_73 ?_
    refine tz_aS (pc := 74) (z := x) dX10_wake_74 a_154 rfl (by omega) (by decide) ?_
    exact tz_vret (pc := 75) dX10_wake_75 rfl (Nat.le_of_ble_eq_true rfl) (Nat.le_of_ble_eq_true rfl) ⟨Nat.le_refl _, Nat.le_add_right _ _⟩ ⟨rfl, ⟨hU.wake hx (by omega), (zOf.up rfl (zOf.up rfl (zOf.up rfl (zOf.up rfl (zOf.up rfl (zOf.up rfl zOf.rf))))))⟩⟩

set_option maxHeartbeats 4000000 in
set_option maxRecDepth 100000 in
theorem c_top {l : Launch} {G : tb_G} (hl : l.stackTraces = false) (n : Nat) (J : zJ) (x : Int) (hr_x : -2147483648 ≤ x ∧ x < 2147483648) (b m : Int) (hm : 0 ≤ m ∧ m ≤ 400) (hx : nd b m x) (hU : UI J b m) : tz_Ok l G M_X10_topOf 2 0 0 [.ref 145, zi x] n J (zqi (fun z J' => UW J' J b m ∧ (nd b m z ∧ J' 146 z = J 145 10) ∧ zOf (zbut [146, 147, 148, 149, 150, 154]) J' J)) zN := by
  refine tz_Ok.of hl (by decide +kernel) rfl (tb_c1 rfl) (Nat.le_of_ble_eq_true rfl) ?_
  show tz_At l G M_X10_topOf (tb_rm 2 0 0) none (tb_ZM G 0 0 (zQ n 0 (zqi (fun z J' => UW J' J b m ∧ (nd b m z ∧ J' 146 z = J 145 10) ∧ zOf (zbut [146, 147, 148, 149, 150, 154]) J' J))) (zX n 0 zN)) 0 0 n J 0 [some (.ref 145), some (zi x), none, none] []
  have ht := hx.ix hm
  have hx2 := hx.rg hm
  refine tz_aload_n (pc := 0) dX10_topOf_0 rfl rfl ?_
  refine tz_fR (pc := 1) dX10_topOf_1 fl_X10_11 r_145_1 ?_
  refine tz_iload_n (pc := 4) dX10_topOf_4 rfl rfl ?_
  refine tz_aL (pc := 5) (z := x) (v := (J 146 x)) dX10_topOf_5 a_146 rfl (by omega) rfl (fun r_5 => ?_)
  refine tz_aload_n (pc := 6) dX10_topOf_6 rfl rfl ?_
  refine tz_fI (pc := 7) (kz := 10) (v := (J 145 10)) dX10_topOf_7 fl_X10_39 i_145_10 rfl rfl (fun r_7 => ?_)
  refine tz_icmp_eq (pc := 10) (tgt := 18) dX10_topOf_10 (by decide) (by omega) (by omega) (fun h_10 => ?_) (fun h_10 => ?_)
  · refine tz_iload_n (pc := 18) dX10_topOf_18 rfl rfl ?_
    refine tz_istore_n (pc := 19) (L2 := [_, _, _, _]) dX10_topOf_19 rfl (by decide) rfl ?_
    refine tz_iconst (pc := 20) dX10_topOf_20 ?_
    refine tz_istore_n (pc := 21) (L2 := [_, _, _, _]) dX10_topOf_21 rfl (by decide) rfl ?_
    have loop22 : ∀ (f9 : Nat) (x1 : Int) (k : Int) (J1 : zJ), ((800 - k).toNat) < f9 → (0 ≤ k ∧ k ≤ 800) → (UW J1 J b m) → (nd b m x1) → (J1 146 x1 = J 145 10) → (zOf (zbut [146, 147, 148, 149, 150, 154]) J1 J) → tz_At l G M_X10_topOf (tb_rm 2 0 0) none (tb_ZM G 0 0 (zQ n 0 (zqi (fun z J' => UW J' J b m ∧ (nd b m z ∧ J' 146 z = J 145 10) ∧ zOf (zbut [146, 147, 148, 149, 150, 154]) J' J))) (zX n 0 zN)) 0 0 n J1 22 [some (.ref 145), some (zi x), some (zi x1), some (zi k)] [] := by
      intro f9
      induction f9 with
      | zero => intro x1 k J1 hm9; exact absurd hm9 (Nat.not_lt_zero _)
      | succ f9 ih22 =>
        intro x1 k J1 hm22 hk hw hn ha hf
        have h1 := hw.at hm hn ha
        have h1r := hn.rg hm
        have h2 := hw.at hm h1.2.1.1 (by have := h1.2.1.2; rw [hw.2.1] at this; exact this)
        have h2r := h1.2.1.1.rg hm
        have h3r := h2.2.1.1.rg hm
        refine tz_iload_n (pc := 22) dX10_topOf_22 rfl rfl ?_
        refine tz_sipush (pc := 23) dX10_topOf_23 (by decide) ?_
        refine tz_icmp_ge (pc := 26) (tgt := 69) dX10_topOf_26 (by decide) (by omega) (by decide) (fun h_26 => ?_) (fun h_26 => ?_)
        · refine tz_iload_n (pc := 69) dX10_topOf_69 rfl rfl ?_
          exact tz_iret (pc := 70) (z := x1) dX10_topOf_70 rfl (Nat.le_of_ble_eq_true rfl) (Nat.le_of_ble_eq_true rfl) ⟨Nat.le_refl _, Nat.le_add_right _ _⟩ ⟨_, rfl, (by omega), ⟨hw, ⟨hn, ha⟩, hf⟩⟩
        · refine tz_aload_n (pc := 29) dX10_topOf_29 rfl rfl ?_
          refine tz_fR (pc := 30) dX10_topOf_30 fl_X10_15 r_145_2 ?_
          refine tz_iload_n (pc := 33) dX10_topOf_33 rfl rfl ?_
          refine tz_aL (pc := 34) (z := x1) (v := (J1 147 x1)) dX10_topOf_34 a_147 rfl (by omega) rfl (fun r_34 => ?_)
          refine tz_iload_n (pc := 35) dX10_topOf_35 rfl rfl ?_
          refine tz_icmp_eq (pc := 36) (tgt := 69) dX10_topOf_36 (by decide) (by omega) (by omega) (fun h_36 => ?_) (fun h_36 => ?_)
          · refine tz_iload_n (pc := 69) dX10_topOf_69 rfl rfl ?_
            exact tz_iret (pc := 70) (z := x1) dX10_topOf_70 rfl (Nat.le_of_ble_eq_true rfl) (Nat.le_of_ble_eq_true rfl) ⟨Nat.le_refl _, Nat.le_add_right _ _⟩ ⟨_, rfl, (by omega), ⟨hw, ⟨hn, ha⟩, hf⟩⟩
          · refine tz_aload_n (pc := 39) dX10_topOf_39 rfl rfl ?_
            refine tz_fR (pc := 40) dX10_topOf_40 fl_X10_15 r_145_2 ?_
            refine tz_iload_n (pc := 43) dX10_topOf_43 rfl rfl ?_
            refine tz_aload_n (pc := 44) dX10_topOf_44 rfl rfl ?_
            refine tz_fR (pc := 45) dX10_topOf_45 fl_X10_15 r_145_2 ?_
            refine tz_aload_n (pc := 48) dX10_topOf_48 rfl rfl ?_
            refine tz_fR (pc := 49) dX10_topOf_49 fl_X10_15 r_145_2 ?_
            refine tz_iload_n (pc := 52) dX10_topOf_52 rfl rfl ?_
            refine tz_aL (pc := 53) (z := x1) (v := (J1 147 x1)) dX10_topOf_53 a_147 rfl (by omega) rfl (fun r_53 => ?_)
            refine tz_aL (pc := 54) (z := (J1 147 x1)) (v := (J1 147 (J1 147 x1))) dX10_topOf_54 a_147 rfl (by omega) rfl (fun r_54 => ?_)
            refine tz_aS (pc := 55) (z := x1) dX10_topOf_55 a_147 rfl (by omega) (by omega) ?_
            refine tz_aload_n (pc := 56) dX10_topOf_56 rfl rfl ?_
            refine tz_fR (pc := 57) dX10_topOf_57 fl_X10_15 r_145_2 ?_
            refine tz_iload_n (pc := 60) dX10_topOf_60 rfl rfl ?_
            refine tz_aL (pc := 61) (z := x1) (v := (J1 147 (J1 147 x1))) dX10_topOf_61 a_147 rfl (by omega) (by simp [zup]) (fun r_61 => ?_)
            refine tz_istore_n (pc := 62) (L2 := [_, _, _, _]) dX10_topOf_62 rfl (by decide) rfl ?_
            refine tz_iinc (pc := 63) (z := k + 1) (L2 := [_, _, _, _]) dX10_topOf_63 rfl (by omega) rfl ?_
            refine tz_goto (pc := 66) (tgt := 22) dX10_topOf_66 (by decide) ?_
            exact ih22 _ (k + 1) _ (by omega) (by omega) (hw.p7 h2.2.1.1 (by have := h2.2.1.2; rw [hw.2.1] at this; exact this)) h2.2.1.1 (by have := h2.2.1.2; rw [hw.2.1] at this; exact this) (zOf.up rfl hf)
    exact loop22 _ _ 0 _ (Nat.lt_succ_self _) (by omega) (UW.rf hU) hx h_10 zOf.rf
  · refine tz_aload_n (pc := 13) dX10_topOf_13 rfl rfl ?_
    refine tz_iload_n (pc := 14) dX10_topOf_14 rfl rfl ?_
    refine tz_cV (pc := 15) (c_wake hl n _ _ (by omega) b m hm hx hU) vl_X10_80 dX10_topOf_15 o_145 rfl rfl (Nat.le_of_ble_eq_true rfl) ⟨(Nat.le_of_ble_eq_true rfl), (Nat.le_of_ble_eq_true rfl)⟩ rfl rfl (Nat.le_of_ble_eq_true rfl) (Nat.le_of_ble_eq_true rfl) (fun r9 J_15 hq9 => ?_)
    obtain ⟨rfl, ⟨w1, w2⟩, w3⟩ := hq9
    refine tz_iload_n (pc := 18) dX10_topOf_18 rfl rfl ?_
    refine tz_istore_n (pc := 19) (L2 := [_, _, _, _]) dX10_topOf_19 rfl (by decide) rfl ?_
    refine tz_iconst (pc := 20) dX10_topOf_20 ?_
    refine tz_istore_n (pc := 21) (L2 := [_, _, _, _]) dX10_topOf_21 rfl (by decide) rfl ?_
    have loop22 : ∀ (f9 : Nat) (x1 : Int) (k : Int) (J1 : zJ), ((800 - k).toNat) < f9 → (0 ≤ k ∧ k ≤ 800) → (UW J1 J b m) → (nd b m x1) → (J1 146 x1 = J 145 10) → (zOf (zbut [146, 147, 148, 149, 150, 154]) J1 J) → tz_At l G M_X10_topOf (tb_rm 2 0 0) none (tb_ZM G 0 0 (zQ n 0 (zqi (fun z J' => UW J' J b m ∧ (nd b m z ∧ J' 146 z = J 145 10) ∧ zOf (zbut [146, 147, 148, 149, 150, 154]) J' J))) (zX n 0 zN)) 0 0 n J1 22 [some (.ref 145), some (zi x), some (zi x1), some (zi k)] [] := by
      intro f9
      induction f9 with
      | zero => intro x1 k J1 hm9; exact absurd hm9 (Nat.not_lt_zero _)
      | succ f9 ih22 =>
        intro x1 k J1 hm22 hk hw hn ha hf
        have h1 := hw.at hm hn ha
        have h1r := hn.rg hm
        have h2 := hw.at hm h1.2.1.1 (by have := h1.2.1.2; rw [hw.2.1] at this; exact this)
        have h2r := h1.2.1.1.rg hm
        have h3r := h2.2.1.1.rg hm
        refine tz_iload_n (pc := 22) dX10_topOf_22 rfl rfl ?_
        refine tz_sipush (pc := 23) dX10_topOf_23 (by decide) ?_
        refine tz_icmp_ge (pc := 26) (tgt := 69) dX10_topOf_26 (by decide) (by omega) (by decide) (fun h_26 => ?_) (fun h_26 => ?_)
        · refine tz_iload_n (pc := 69) dX10_topOf_69 rfl rfl ?_
          exact tz_iret (pc := 70) (z := x1) dX10_topOf_70 rfl (Nat.le_of_ble_eq_true rfl) (Nat.le_of_ble_eq_true rfl) ⟨Nat.le_refl _, Nat.le_add_right _ _⟩ ⟨_, rfl, (by omega), ⟨hw, ⟨hn, ha⟩, hf⟩⟩
        · refine tz_aload_n (pc := 29) dX10_topOf_29 rfl rfl ?_
          refine tz_fR (pc := 30) dX10_topOf_30 fl_X10_15 r_145_2 ?_
          refine tz_iload_n (pc := 33) dX10_topOf_33 rfl rfl ?_
          refine tz_aL (pc := 34) (z := x1) (v := (J1 147 x1)) dX10_topOf_34 a_147 rfl (by omega) rfl (fun r_34 => ?_)
          refine tz_iload_n (pc := 35) dX10_topOf_35 rfl rfl ?_
          refine tz_icmp_eq (pc := 36) (tgt := 69) dX10_topOf_36 (by decide) (by omega) (by omega) (fun h_36 => ?_) (fun h_36 => ?_)
          · refine tz_iload_n (pc := 69) dX10_topOf_69 rfl rfl ?_
            exact tz_iret (pc := 70) (z := x1) dX10_topOf_70 rfl (Nat.le_of_ble_eq_true rfl) (Nat.le_of_ble_eq_true rfl) ⟨Nat.le_refl _, Nat.le_add_right _ _⟩ ⟨_, rfl, (by omega), ⟨hw, ⟨hn, ha⟩, hf⟩⟩
          · refine tz_aload_n (pc := 39) dX10_topOf_39 rfl rfl ?_
            refine tz_fR (pc := 40) dX10_topOf_40 fl_X10_15 r_145_2 ?_
            refine tz_iload_n (pc := 43) dX10_topOf_43 rfl rfl ?_
            refine tz_aload_n (pc := 44) dX10_topOf_44 rfl rfl ?_
            refine tz_fR (pc := 45) dX10_topOf_45 fl_X10_15 r_145_2 ?_
            refine tz_aload_n (pc := 48) dX10_topOf_48 rfl rfl ?_
            refine tz_fR (pc := 49) dX10_topOf_49 fl_X10_15 r_145_2 ?_
            refine tz_iload_n (pc := 52) dX10_topOf_52 rfl rfl ?_
            refine tz_aL (pc := 53) (z := x1) (v := (J1 147 x1)) dX10_topOf_53 a_147 rfl (by omega) rfl (fun r_53 => ?_)
            refine tz_aL (pc := 54) (z := (J1 147 x1)) (v := (J1 147 (J1 147 x1))) dX10_topOf_54 a_147 rfl (by omega) rfl (fun r_54 => ?_)
            refine tz_aS (pc := 55) (z := x1) dX10_topOf_55 a_147 rfl (by omega) (by omega) ?_
            refine tz_aload_n (pc := 56) dX10_topOf_56 rfl rfl ?_
            refine tz_fR (pc := 57) dX10_topOf_57 fl_X10_15 r_145_2 ?_
            refine tz_iload_n (pc := 60) dX10_topOf_60 rfl rfl ?_
            refine tz_aL (pc := 61) (z := x1) (v := (J1 147 (J1 147 x1))) dX10_topOf_61 a_147 rfl (by omega) (by simp [zup]) (fun r_61 => ?_)
            refine tz_istore_n (pc := 62) (L2 := [_, _, _, _]) dX10_topOf_62 rfl (by decide) rfl ?_
            refine tz_iinc (pc := 63) (z := k + 1) (L2 := [_, _, _, _]) dX10_topOf_63 rfl (by omega) rfl ?_
            refine tz_goto (pc := 66) (tgt := 22) dX10_topOf_66 (by decide) ?_
            exact ih22 _ (k + 1) _ (by omega) (by omega) (hw.p7 h2.2.1.1 (by have := h2.2.1.2; rw [hw.2.1] at this; exact this)) h2.2.1.1 (by have := h2.2.1.2; rw [hw.2.1] at this; exact this) (zOf.up rfl hf)
    exact loop22 _ _ 0 _ (Nat.lt_succ_self _) (by omega) w1 hx w2 w3

set_option maxHeartbeats 4000000 in
set_option maxRecDepth 100000 in
theorem c_addPair {l : Launch} {G : tb_G} (hl : l.stackTraces = false) (n : Nat) (J : zJ) (x : Int) (y : Int) (hr_x : -2147483648 ≤ x ∧ x < 2147483648) (hr_y : -2147483648 ≤ y ∧ y < 2147483648) (b m : Int) (hP : PI J b m) (hx : nd b m x) (hy : nd b m y) : tz_Ok l G M_X10_addPair 0 0 0 [.ref 145, zi x, zi y] n J (zqv (fun J' => PI J' b m ∧ J' 145 10 = J 145 10 ∧ zOf (zbut [145, 151, 152]) J' J)) zN := by
  refine tz_Ok.of hl (by decide +kernel) rfl (tb_c1 rfl) (Nat.le_of_ble_eq_true rfl) ?_
  show tz_At l G M_X10_addPair (tb_rm 0 0 0) none (tb_ZM G 0 0 (zQ n 0 (zqv (fun J' => PI J' b m ∧ J' 145 10 = J 145 10 ∧ zOf (zbut [145, 151, 152]) J' J))) (zX n 0 zN)) 0 0 n J 0 [some (.ref 145), some (zi x), some (zi y)] []
  have hp := hP.1
  refine tz_aload_n (pc := 0) dX10_addPair_0 rfl rfl ?_
  refine tz_fI (pc := 1) (kz := 11) (v := (J 145 11)) dX10_addPair_1 fl_X10_43 i_145_11 rfl rfl (fun r_1 => ?_)
  refine tz_aload_n (pc := 4) dX10_addPair_4 rfl rfl ?_
  refine tz_fR (pc := 5) dX10_addPair_5 fl_X10_27 r_145_6 ?_
  refine tz_aN (pc := 8) (lz := 2401) dX10_addPair_8 a_151 rfl ?_
  refine tz_icmp_ge (pc := 9) (tgt := 42) dX10_addPair_9 (by decide) (by omega) (by decide) (fun h_9 => ?_) (fun h_9 => ?_)
  · exact tz_vret (pc := 42) dX10_addPair_42 rfl (Nat.le_of_ble_eq_true rfl) (Nat.le_of_ble_eq_true rfl) ⟨Nat.le_refl _, Nat.le_add_right _ _⟩ ⟨rfl, (by first | exact ⟨hP, rfl, zOf.rf⟩ | exact ⟨hP.push hx hy (by omega), rfl, zOf.up rfl (zOf.up rfl (zOf.up rfl zOf.rf))⟩)⟩
  · refine tz_aload_n (pc := 12) dX10_addPair_12 rfl rfl ?_
    refine tz_fR (pc := 13) dX10_addPair_13 fl_X10_27 r_145_6 ?_
    refine tz_aload_n (pc := 16) dX10_addPair_16 rfl rfl ?_
    refine tz_fI (pc := 17) (kz := 11) (v := (J 145 11)) dX10_addPair_17 fl_X10_43 i_145_11 rfl rfl (fun r_17 => ?_)
    refine tz_iload_n (pc := 20) dX10_addPair_20 rfl rfl ?_
    refine tz_aS (pc := 21) (z := (J 145 11)) dX10_addPair_21 a_151 rfl (by omega) (by omega) ?_
    refine tz_aload_n (pc := 22) dX10_addPair_22 rfl rfl ?_
    refine tz_fR (pc := 23) dX10_addPair_23 fl_X10_30 r_145_7 ?_
    refine tz_aload_n (pc := 26) dX10_addPair_26 rfl rfl ?_
    refine tz_fI (pc := 27) (kz := 11) (v := (J 145 11)) dX10_addPair_27 fl_X10_43 i_145_11 rfl rfl (fun r_27 => ?_)
    refine tz_iload_n (pc := 30) dX10_addPair_30 rfl rfl ?_
    refine tz_aS (pc := 31) (z := (J 145 11)) dX10_addPair_31 a_152 rfl (by omega) (by omega) ?_
    refine tz_aload_n (pc := 32) dX10_addPair_32 rfl rfl ?_
    refine tz_dup (pc := 33) dX10_addPair_33 rfl ?_
    refine tz_fI (pc := 34) (kz := 11) (v := (J 145 11)) dX10_addPair_34 fl_X10_43 i_145_11 rfl rfl (fun r_34 => ?_)
    refine tz_iconst (pc := 37) dX10_addPair_37 ?_
    refine tz_iadd (pc := 38) (v := (J 145 11) + 1) dX10_addPair_38 rfl ?_
    refine tz_pI (pc := 39) (kz := 11) dX10_addPair_39 fl_X10_43 i_145_11 rfl rfl (by omega) ?_
    exact tz_vret (pc := 42) dX10_addPair_42 rfl (Nat.le_of_ble_eq_true rfl) (Nat.le_of_ble_eq_true rfl) ⟨Nat.le_refl _, Nat.le_add_right _ _⟩ ⟨rfl, (by first | exact ⟨hP, rfl, zOf.rf⟩ | exact ⟨hP.push hx hy (by omega), rfl, zOf.up rfl (zOf.up rfl (zOf.up rfl zOf.rf))⟩)⟩

set_option maxHeartbeats 4000000 in
set_option maxRecDepth 100000 in
theorem c_lesser {l : Launch} {G : tb_G} (hl : l.stackTraces = false) (n : Nat) (J : zJ) (x : Int) (y : Int) (hr_x : -2147483648 ≤ x ∧ x < 2147483648) (hr_y : -2147483648 ≤ y ∧ y < 2147483648) (b m : Int) (hm : 0 ≤ m ∧ m ≤ 400) (hx : nd b m x) (hy : nd b m y) : tz_Ok l G M_X10_lesser 1 0 0 [.ref 145, zi x, zi y] n J (zqi (fun z J' => J = J' ∧ (z = x ∨ z = y))) zN := by
  refine tz_Ok.of hl (by decide +kernel) rfl (tb_c1 rfl) (Nat.le_of_ble_eq_true rfl) ?_
  show tz_At l G M_X10_lesser (tb_rm 1 0 0) none (tb_ZM G 0 0 (zQ n 0 (zqi (fun z J' => J = J' ∧ (z = x ∨ z = y)))) (zX n 0 zN)) 0 0 n J 0 [some (.ref 145), some (zi x), some (zi y)] []
  have ht := hx.ix hm
  have hx2 := hx.rg hm
  have hu := hy.ix hm
  have hy2 := hy.rg hm
  refine tz_aload_n (pc := 0) dX10_lesser_0 rfl rfl ?_
  refine tz_fR (pc := 1) dX10_lesser_1 fl_X10_46 r_145_0 ?_
  refine tz_fR (pc := 4) dX10_lesser_4 fl_X10_84 r_6_1 ?_
  refine tz_aload_n (pc := 7) dX10_lesser_7 rfl rfl ?_
  refine tz_iload_n (pc := 8) dX10_lesser_8 rfl rfl ?_
  refine tz_cV (pc := 9) (c_uTerm hl n _ _ (by omega) (by omega)) vl_X10_68 dX10_lesser_9 o_145 rfl rfl (Nat.le_of_ble_eq_true rfl) ⟨(Nat.le_of_ble_eq_true rfl), (Nat.le_of_ble_eq_true rfl)⟩ rfl rfl (Nat.le_of_ble_eq_true rfl) (Nat.le_of_ble_eq_true rfl) (fun r9 J_9 hq9 => ?_)
  obtain ⟨z_9, rfl, hz_9, rfl, rfl⟩ := hq9
  refine tz_aL (pc := 12) (z := (tm x)) (v := (J 7 (tm x))) dX10_lesser_12 a_7 rfl (by omega) rfl (fun r_12 => ?_)
  refine tz_iconst (pc := 13) dX10_lesser_13 ?_
  refine tz_ixor (pc := 14) (v := zxor (J 7 (tm x)) (-1)) dX10_lesser_14 rfl ?_
  refine tz_aload_n (pc := 15) dX10_lesser_15 rfl rfl ?_
  refine tz_fR (pc := 16) dX10_lesser_16 fl_X10_46 r_145_0 ?_
  refine tz_fR (pc := 19) dX10_lesser_19 fl_X10_84 r_6_1 ?_
  refine tz_aload_n (pc := 22) dX10_lesser_22 rfl rfl ?_
  refine tz_iload_n (pc := 23) dX10_lesser_23 rfl rfl ?_
  refine tz_cV (pc := 24) (c_uTerm hl n _ _ (by omega) (by omega)) vl_X10_68 dX10_lesser_24 o_145 rfl rfl (Nat.le_of_ble_eq_true rfl) ⟨(Nat.le_of_ble_eq_true rfl), (Nat.le_of_ble_eq_true rfl)⟩ rfl rfl (Nat.le_of_ble_eq_true rfl) (Nat.le_of_ble_eq_true rfl) (fun r9 J_24 hq9 => ?_)
  obtain ⟨z_24, rfl, hz_24, rfl, rfl⟩ := hq9
  refine tz_aL (pc := 27) (z := (tm y)) (v := (J 7 (tm y))) dX10_lesser_27 a_7 rfl (by omega) rfl (fun r_27 => ?_)
  refine tz_iconst (pc := 28) dX10_lesser_28 ?_
  refine tz_ixor (pc := 29) (v := zxor (J 7 (tm y)) (-1)) dX10_lesser_29 rfl ?_
  refine tz_icmp_gt (pc := 30) (tgt := 37) dX10_lesser_30 (by decide) (zxor_rg _ _) (zxor_rg _ _) (fun h_30 => ?_) (fun h_30 => ?_)
  · refine tz_iload_n (pc := 37) dX10_lesser_37 rfl rfl ?_
    exact tz_iret (pc := 38) (z := y) dX10_lesser_38 rfl (Nat.le_of_ble_eq_true rfl) (Nat.le_of_ble_eq_true rfl) ⟨Nat.le_refl _, Nat.le_add_right _ _⟩ ⟨_, rfl, (by omega), ⟨rfl, by omega⟩⟩
  · refine tz_iload_n (pc := 33) dX10_lesser_33 rfl rfl ?_
    refine tz_goto (pc := 34) (tgt := 38) dX10_lesser_34 (by decide) ?_
    exact tz_iret (pc := 38) (z := x) dX10_lesser_38 rfl (Nat.le_of_ble_eq_true rfl) (Nat.le_of_ble_eq_true rfl) ⟨Nat.le_refl _, Nat.le_add_right _ _⟩ ⟨_, rfl, (by omega), ⟨rfl, by omega⟩⟩

set_option maxHeartbeats 4000000 in
set_option maxRecDepth 100000 in
theorem c_joined {l : Launch} {G : tb_G} (hl : l.stackTraces = false) (n : Nat) (J : zJ) (x : Int) (y : Int) (hr_x : -2147483648 ≤ x ∧ x < 2147483648) (hr_y : -2147483648 ≤ y ∧ y < 2147483648) (b m : Int) (C : CT J m) (hU : UI J b m) (hP : PI J b m) (hx : nd b m x) (hy : nd b m y) (ax : J 146 x = J 145 10) (ay : J 146 y = J 145 10) : tz_Ok l G M_X10_joined 2 0 0 [.ref 145, zi x, zi y] n J (zqi (fun z J' => UW J' J b m ∧ PI J' b m ∧ (z = 0 ∨ z = 1) ∧ zOf (zbut [145, 147, 148, 149, 151, 152]) J' J)) zN := by
  refine tz_Ok.of hl (by decide +kernel) rfl (tb_c1 rfl) (Nat.le_of_ble_eq_true rfl) ?_
  show tz_At l G M_X10_joined (tb_rm 2 0 0) none (tb_ZM G 0 0 (zQ n 0 (zqi (fun z J' => UW J' J b m ∧ PI J' b m ∧ (z = 0 ∨ z = 1) ∧ zOf (zbut [145, 147, 148, 149, 151, 152]) J' J))) (zX n 0 zN)) 0 0 n J 0 [some (.ref 145), some (zi x), some (zi y), none, none, none] []
  have hb := C.told
  have hm := hb.2
  have hx2 := hx.rg hm
  have hy2 := hy.rg hm
  have ux := (UW.rf hU).at hm hx ax
  have uy := (UW.rf hU).at hm hy ay
  have hp9 := ux.2.2.1
  have hq9 := uy.2.2.1
  refine tz_iload_n (pc := 0) dX10_joined_0 rfl rfl ?_
  refine tz_iload_n (pc := 1) dX10_joined_1 rfl rfl ?_
  refine tz_icmp_ne (pc := 2) (tgt := 7) dX10_joined_2 (by decide) (by omega) (by omega) (fun h_2 => ?_) (fun h_2 => ?_)
  · refine tz_aload_n (pc := 7) dX10_joined_7 rfl rfl ?_
    refine tz_fR (pc := 8) dX10_joined_8 fl_X10_18 r_145_3 ?_
    refine tz_iload_n (pc := 11) dX10_joined_11 rfl rfl ?_
    refine tz_aL (pc := 12) (z := x) (v := (J 148 x)) dX10_joined_12 a_148 rfl (by omega) rfl (fun r_12 => ?_)
    refine tz_istore_n (pc := 13) (L2 := [_, _, _, _, _, _]) dX10_joined_13 rfl (by decide) rfl ?_
    refine tz_aload_n (pc := 14) dX10_joined_14 rfl rfl ?_
    refine tz_fR (pc := 15) dX10_joined_15 fl_X10_18 r_145_3 ?_
    refine tz_iload_n (pc := 18) dX10_joined_18 rfl rfl ?_
    refine tz_aL (pc := 19) (z := y) (v := (J 148 y)) dX10_joined_19 a_148 rfl (by omega) rfl (fun r_19 => ?_)
    refine tz_istore (pc := 20) (L2 := [_, _, _, _, _, _]) dX10_joined_20 (by decide) rfl ?_
    refine tz_aload_n (pc := 22) dX10_joined_22 rfl rfl ?_
    refine tz_fR (pc := 23) dX10_joined_23 fl_X10_15 r_145_2 ?_
    refine tz_iload_n (pc := 26) dX10_joined_26 rfl rfl ?_
    refine tz_iload_n (pc := 27) dX10_joined_27 rfl rfl ?_
    refine tz_aS (pc := 28) (z := y) dX10_joined_28 a_147 rfl (by omega) (by omega) ?_
    refine tz_aload_n (pc := 29) dX10_joined_29 rfl rfl ?_
    refine tz_fR (pc := 30) dX10_joined_30 fl_X10_18 r_145_3 ?_
    refine tz_iload_n (pc := 33) dX10_joined_33 rfl rfl ?_
    refine tz_iload_n (pc := 34) dX10_joined_34 rfl rfl ?_
    refine tz_iconst (pc := 35) dX10_joined_35 ?_
    refine tz_icmp_ne (pc := 36) (tgt := 44) dX10_joined_36 (by decide) (by omega) (by decide) (fun h_36 => ?_) (fun h_36 => ?_)
    · refine tz_iload_n (pc := 44) dX10_joined_44 rfl rfl ?_
      refine tz_aS (pc := 45) (z := x) dX10_joined_45 a_148 rfl (by omega) (by omega) ?_
      refine tz_iload_n (pc := 46) dX10_joined_46 rfl rfl ?_
      refine tz_iconst (pc := 47) dX10_joined_47 ?_
      refine tz_icmp_ne (pc := 48) (tgt := 79) dX10_joined_48 (by decide) (by omega) (by decide) (fun h_48 => ?_) (fun h_48 => ?_)
      · refine tz_iload_n (pc := 79) dX10_joined_79 rfl rfl ?_
        refine tz_iconst (pc := 80) dX10_joined_80 ?_
        refine tz_icmp_eq (pc := 81) (tgt := 90) dX10_joined_81 (by decide) (by omega) (by decide) (fun h_81 => ?_) (fun h_81 => ?_)
        · refine tz_iconst (pc := 90) dX10_joined_90 ?_
          exact tz_zret (pc := 91) (z := 1) dX10_joined_91 rfl (Or.inr rfl) (Nat.le_of_ble_eq_true rfl) (Nat.le_of_ble_eq_true rfl) ⟨Nat.le_refl _, Nat.le_add_right _ _⟩ ⟨_, rfl, (by decide), ⟨(UW.p8 (UW.p7 (UW.rf hU) hx ax) (by first | exact hq9 | exact hp9)), hP.of rfl rfl rfl, by omega, (zOf.up rfl (zOf.up rfl zOf.rf))⟩⟩
        · refine tz_iload (pc := 84) dX10_joined_84 rfl ?_
          refine tz_iconst (pc := 86) dX10_joined_86 ?_
          refine tz_icmp_ne (pc := 87) (tgt := 92) dX10_joined_87 (by decide) (by omega) (by decide) (fun h_87 => ?_) (fun h_87 => ?_)
          · have hp0 := hp9.resolve_left (by omega)
            have hq0 := hq9.resolve_left (by omega)
            have hpr := hp0.rg hm
            have hqr := hq0.rg hm
            have hpt := hp0.ix hm
            have hqt := hq0.ix hm
            refine tz_aload_n (pc := 92) dX10_joined_92 rfl rfl ?_
            refine tz_fR (pc := 93) dX10_joined_93 fl_X10_46 r_145_0 ?_
            refine tz_fR (pc := 96) dX10_joined_96 fl_X10_84 r_6_1 ?_
            refine tz_aload_n (pc := 99) dX10_joined_99 rfl rfl ?_
            refine tz_iload_n (pc := 100) dX10_joined_100 rfl rfl ?_
            refine tz_cV (pc := 101) (c_uTerm hl n _ _ (by omega) (by omega)) vl_X10_68 dX10_joined_101 o_145 rfl rfl (Nat.le_of_ble_eq_true rfl) ⟨(Nat.le_of_ble_eq_true rfl), (Nat.le_of_ble_eq_true rfl)⟩ rfl rfl (Nat.le_of_ble_eq_true rfl) (Nat.le_of_ble_eq_true rfl) (fun r9 J_101 hq9 => ?_)
            obtain ⟨z_101, rfl, hz_101, rfl, rfl⟩ := hq9
            refine tz_aL (pc := 104) (z := (tm (J 148 x))) (v := (J 7 (tm (J 148 x)))) dX10_joined_104 a_7 rfl (by omega) rfl (fun r_104 => ?_)
            refine tz_aload_n (pc := 105) dX10_joined_105 rfl rfl ?_
            refine tz_fR (pc := 106) dX10_joined_106 fl_X10_46 r_145_0 ?_
            refine tz_fR (pc := 109) dX10_joined_109 fl_X10_84 r_6_1 ?_
            refine tz_aload_n (pc := 112) dX10_joined_112 rfl rfl ?_
            refine tz_iload (pc := 113) dX10_joined_113 rfl ?_
            refine tz_cV (pc := 115) (c_uTerm hl n _ _ (by omega) (by omega)) vl_X10_68 dX10_joined_115 o_145 rfl rfl (Nat.le_of_ble_eq_true rfl) ⟨(Nat.le_of_ble_eq_true rfl), (Nat.le_of_ble_eq_true rfl)⟩ rfl rfl (Nat.le_of_ble_eq_true rfl) (Nat.le_of_ble_eq_true rfl) (fun r9 J_115 hq9 => ?_)
            obtain ⟨z_115, rfl, hz_115, rfl, rfl⟩ := hq9
            refine tz_aL (pc := 118) (z := (tm (J 148 y))) (v := (J 7 (tm (J 148 y)))) dX10_joined_118 a_7 rfl (by omega) rfl (fun r_118 => ?_)
            refine tz_icmp_eq (pc := 119) (tgt := 124) dX10_joined_119 (by decide) (by omega) (by omega) (fun h_119 => ?_) (fun h_119 => ?_)
            · refine tz_iconst (pc := 124) dX10_joined_124 ?_
              refine tz_istore (pc := 125) (L2 := [_, _, _, _, _, _]) dX10_joined_125 (by decide) rfl ?_
              have loop127 : ∀ (f9 : Nat) (i : Int) (J1 : zJ), ((3 - i).toNat) < f9 → (0 ≤ i ∧ i ≤ J 8 (tm (J 148 x))) → (UW J1 J b m) → (PI J1 b m) → (zOf (zbut [145, 147, 148, 149, 151, 152]) J1 J) → tz_At l G M_X10_joined (tb_rm 2 0 0) none (tb_ZM G 0 0 (zQ n 0 (zqi (fun z J' => UW J' J b m ∧ PI J' b m ∧ (z = 0 ∨ z = 1) ∧ zOf (zbut [145, 147, 148, 149, 151, 152]) J' J))) (zX n 0 zN)) 0 0 n J1 127 [some (.ref 145), some (zi x), some (zi y), some (zi (J 148 x)), some (zi (J 148 y)), some (zi i)] [] := by
                intro f9
                induction f9 with
                | zero => intro i J1 hm9; exact absurd hm9 (Nat.not_lt_zero _)
                | succ f9 ih127 =>
                  intro i J1 hm127 hi hw hP1 fr
                  have he := C.arh hpt hqt (by omega)
                  have ha8 := C.ar hpt.1 hpt.2
                  have e8 := congrFun (fr 8 rfl) (tm (J 148 x))
                  have e8q := congrFun (fr 8 rfl) (tm (J 148 y))
                  refine tz_iload (pc := 127) dX10_joined_127 rfl ?_
                  refine tz_aload_n (pc := 129) dX10_joined_129 rfl rfl ?_
                  refine tz_fR (pc := 130) dX10_joined_130 fl_X10_46 r_145_0 ?_
                  refine tz_fR (pc := 133) dX10_joined_133 fl_X10_90 r_6_2 ?_
                  refine tz_aload_n (pc := 136) dX10_joined_136 rfl rfl ?_
                  refine tz_iload_n (pc := 137) dX10_joined_137 rfl rfl ?_
                  refine tz_cV (pc := 138) (c_uTerm hl n _ _ (by omega) (by omega)) vl_X10_68 dX10_joined_138 o_145 rfl rfl (Nat.le_of_ble_eq_true rfl) ⟨(Nat.le_of_ble_eq_true rfl), (Nat.le_of_ble_eq_true rfl)⟩ rfl rfl (Nat.le_of_ble_eq_true rfl) (Nat.le_of_ble_eq_true rfl) (fun r9 J_138 hq9 => ?_)
                  obtain ⟨z_138, rfl, hz_138, rfl, rfl⟩ := hq9
                  refine tz_aL (pc := 141) (z := (tm (J 148 x))) (v := (J 8 (tm (J 148 x)))) dX10_joined_141 a_8 rfl (by omega) (Eq.trans (congrFun (fr 8 rfl) (tm (J 148 x))) rfl) (fun r_141 => ?_)
                  refine tz_icmp_ge (pc := 142) (tgt := 170) dX10_joined_142 (by decide) (by omega) (by omega) (fun h_142 => ?_) (fun h_142 => ?_)
                  · refine tz_iconst (pc := 170) dX10_joined_170 ?_
                    exact tz_zret (pc := 171) (z := 1) dX10_joined_171 rfl (Or.inr rfl) (Nat.le_of_ble_eq_true rfl) (Nat.le_of_ble_eq_true rfl) ⟨Nat.le_refl _, Nat.le_add_right _ _⟩ ⟨_, rfl, (by decide), ⟨hw, hP1, by omega, fr⟩⟩
                  · refine tz_aload_n (pc := 145) dX10_joined_145 rfl rfl ?_
                    refine tz_aload_n (pc := 146) dX10_joined_146 rfl rfl ?_
                    refine tz_iload_n (pc := 147) dX10_joined_147 rfl rfl ?_
                    refine tz_iload (pc := 148) dX10_joined_148 rfl ?_
                    refine tz_cV (pc := 150) (c_part hl n _ _ _ (by omega) (by omega) b m (C.of (fun c hc => fr c (by simp [zbut]; omega))) hp0 (by rw [fr 8 rfl]; omega)) vl_X10_93 dX10_joined_150 o_145 rfl rfl (Nat.le_of_ble_eq_true rfl) ⟨(Nat.le_of_ble_eq_true rfl), (Nat.le_of_ble_eq_true rfl)⟩ rfl rfl (Nat.le_of_ble_eq_true rfl) (Nat.le_of_ble_eq_true rfl) (fun r9 J_150 hq9 => ?_)
                    obtain ⟨z_150, rfl, hz_150, rfl, hn_150⟩ := hq9
                    refine tz_aload_n (pc := 153) dX10_joined_153 rfl rfl ?_
                    refine tz_iload (pc := 154) dX10_joined_154 rfl ?_
                    refine tz_iload (pc := 156) dX10_joined_156 rfl ?_
                    refine tz_cV (pc := 158) (c_part hl n _ _ _ (by omega) (by omega) b m (C.of (fun c hc => fr c (by simp [zbut]; omega))) hq0 (by rw [fr 8 rfl]; omega)) vl_X10_93 dX10_joined_158 o_145 rfl rfl (Nat.le_of_ble_eq_true rfl) ⟨(Nat.le_of_ble_eq_true rfl), (Nat.le_of_ble_eq_true rfl)⟩ rfl rfl (Nat.le_of_ble_eq_true rfl) (Nat.le_of_ble_eq_true rfl) (fun r9 J_158 hq9 => ?_)
                    obtain ⟨z_158, rfl, hz_158, rfl, hn_158⟩ := hq9
                    refine tz_cV (pc := 161) (c_addPair hl n _ _ _ (by omega) (by omega) b m hP1 hn_150 hn_158) vl_X10_50 dX10_joined_161 o_145 rfl rfl (Nat.le_of_ble_eq_true rfl) ⟨(Nat.le_of_ble_eq_true rfl), (Nat.le_of_ble_eq_true rfl)⟩ rfl rfl (Nat.le_of_ble_eq_true rfl) (Nat.le_of_ble_eq_true rfl) (fun r9 J_161 hq9 => ?_)
                    obtain ⟨rfl, k1, k2, k3⟩ := hq9
                    refine tz_iinc (pc := 164) (z := i + 1) (L2 := [_, _, _, _, _, _]) dX10_joined_164 rfl (by omega) rfl ?_
                    refine tz_goto (pc := 167) (tgt := 127) dX10_joined_167 (by decide) ?_
                    exact ih127 (i + 1) _ (by omega) (by omega) (hw.of (Int.le_refl _) k2 (fun c hc => k3 c (by simp [zbut]; omega))) k1 ((k3.mono (fun c hc => by simp [zbut] at hc ⊢; omega)).tr fr)
              exact loop127 _ 0 _ (Nat.lt_succ_self _) (by have := C.ar hpt.1 hpt.2; omega) (UW.p8 (UW.p7 (UW.rf hU) hx ax) (by first | exact hq9 | exact hp9)) (hP.of rfl rfl rfl) (zOf.up rfl (zOf.up rfl zOf.rf))
            · refine tz_iconst (pc := 122) dX10_joined_122 ?_
              exact tz_zret (pc := 123) (z := 0) dX10_joined_123 rfl (Or.inl rfl) (Nat.le_of_ble_eq_true rfl) (Nat.le_of_ble_eq_true rfl) ⟨Nat.le_refl _, Nat.le_add_right _ _⟩ ⟨_, rfl, (by decide), ⟨(UW.p8 (UW.p7 (UW.rf hU) hx ax) (by first | exact hq9 | exact hp9)), hP.of rfl rfl rfl, by omega, (zOf.up rfl (zOf.up rfl zOf.rf))⟩⟩
          · refine tz_iconst (pc := 90) dX10_joined_90 ?_
            exact tz_zret (pc := 91) (z := 1) dX10_joined_91 rfl (Or.inr rfl) (Nat.le_of_ble_eq_true rfl) (Nat.le_of_ble_eq_true rfl) ⟨Nat.le_refl _, Nat.le_add_right _ _⟩ ⟨_, rfl, (by decide), ⟨(UW.p8 (UW.p7 (UW.rf hU) hx ax) (by first | exact hq9 | exact hp9)), hP.of rfl rfl rfl, by omega, (zOf.up rfl (zOf.up rfl zOf.rf))⟩⟩
      · refine tz_iload (pc := 51) dX10_joined_51 rfl ?_
        refine tz_iconst (pc := 53) dX10_joined_53 ?_
        refine tz_icmp_ne (pc := 54) (tgt := 79) dX10_joined_54 (by decide) (by omega) (by decide) (fun h_54 => ?_) (fun h_54 => ?_)
        · refine tz_iload_n (pc := 79) dX10_joined_79 rfl rfl ?_
          refine tz_iconst (pc := 80) dX10_joined_80 ?_
          refine tz_icmp_eq (pc := 81) (tgt := 90) dX10_joined_81 (by decide) (by omega) (by decide) (fun h_81 => ?_) (fun h_81 => ?_)
          · refine tz_iconst (pc := 90) dX10_joined_90 ?_
            exact tz_zret (pc := 91) (z := 1) dX10_joined_91 rfl (Or.inr rfl) (Nat.le_of_ble_eq_true rfl) (Nat.le_of_ble_eq_true rfl) ⟨Nat.le_refl _, Nat.le_add_right _ _⟩ ⟨_, rfl, (by decide), ⟨(UW.p8 (UW.p7 (UW.rf hU) hx ax) (by first | exact hq9 | exact hp9)), hP.of rfl rfl rfl, by omega, (zOf.up rfl (zOf.up rfl zOf.rf))⟩⟩
          · refine tz_iload (pc := 84) dX10_joined_84 rfl ?_
            refine tz_iconst (pc := 86) dX10_joined_86 ?_
            refine tz_icmp_ne (pc := 87) (tgt := 92) dX10_joined_87 (by decide) (by omega) (by decide) (fun h_87 => ?_) (fun h_87 => ?_)
            · have hp0 := hp9.resolve_left (by omega)
              have hq0 := hq9.resolve_left (by omega)
              have hpr := hp0.rg hm
              have hqr := hq0.rg hm
              have hpt := hp0.ix hm
              have hqt := hq0.ix hm
              refine tz_aload_n (pc := 92) dX10_joined_92 rfl rfl ?_
              refine tz_fR (pc := 93) dX10_joined_93 fl_X10_46 r_145_0 ?_
              refine tz_fR (pc := 96) dX10_joined_96 fl_X10_84 r_6_1 ?_
              refine tz_aload_n (pc := 99) dX10_joined_99 rfl rfl ?_
              refine tz_iload_n (pc := 100) dX10_joined_100 rfl rfl ?_
              refine tz_cV (pc := 101) (c_uTerm hl n _ _ (by omega) (by omega)) vl_X10_68 dX10_joined_101 o_145 rfl rfl (Nat.le_of_ble_eq_true rfl) ⟨(Nat.le_of_ble_eq_true rfl), (Nat.le_of_ble_eq_true rfl)⟩ rfl rfl (Nat.le_of_ble_eq_true rfl) (Nat.le_of_ble_eq_true rfl) (fun r9 J_101 hq9 => ?_)
              obtain ⟨z_101, rfl, hz_101, rfl, rfl⟩ := hq9
              refine tz_aL (pc := 104) (z := (tm (J 148 x))) (v := (J 7 (tm (J 148 x)))) dX10_joined_104 a_7 rfl (by omega) rfl (fun r_104 => ?_)
              refine tz_aload_n (pc := 105) dX10_joined_105 rfl rfl ?_
              refine tz_fR (pc := 106) dX10_joined_106 fl_X10_46 r_145_0 ?_
              refine tz_fR (pc := 109) dX10_joined_109 fl_X10_84 r_6_1 ?_
              refine tz_aload_n (pc := 112) dX10_joined_112 rfl rfl ?_
              refine tz_iload (pc := 113) dX10_joined_113 rfl ?_
              refine tz_cV (pc := 115) (c_uTerm hl n _ _ (by omega) (by omega)) vl_X10_68 dX10_joined_115 o_145 rfl rfl (Nat.le_of_ble_eq_true rfl) ⟨(Nat.le_of_ble_eq_true rfl), (Nat.le_of_ble_eq_true rfl)⟩ rfl rfl (Nat.le_of_ble_eq_true rfl) (Nat.le_of_ble_eq_true rfl) (fun r9 J_115 hq9 => ?_)
              obtain ⟨z_115, rfl, hz_115, rfl, rfl⟩ := hq9
              refine tz_aL (pc := 118) (z := (tm (J 148 y))) (v := (J 7 (tm (J 148 y)))) dX10_joined_118 a_7 rfl (by omega) rfl (fun r_118 => ?_)
              refine tz_icmp_eq (pc := 119) (tgt := 124) dX10_joined_119 (by decide) (by omega) (by omega) (fun h_119 => ?_) (fun h_119 => ?_)
              · refine tz_iconst (pc := 124) dX10_joined_124 ?_
                refine tz_istore (pc := 125) (L2 := [_, _, _, _, _, _]) dX10_joined_125 (by decide) rfl ?_
                have loop127 : ∀ (f9 : Nat) (i : Int) (J1 : zJ), ((3 - i).toNat) < f9 → (0 ≤ i ∧ i ≤ J 8 (tm (J 148 x))) → (UW J1 J b m) → (PI J1 b m) → (zOf (zbut [145, 147, 148, 149, 151, 152]) J1 J) → tz_At l G M_X10_joined (tb_rm 2 0 0) none (tb_ZM G 0 0 (zQ n 0 (zqi (fun z J' => UW J' J b m ∧ PI J' b m ∧ (z = 0 ∨ z = 1) ∧ zOf (zbut [145, 147, 148, 149, 151, 152]) J' J))) (zX n 0 zN)) 0 0 n J1 127 [some (.ref 145), some (zi x), some (zi y), some (zi (J 148 x)), some (zi (J 148 y)), some (zi i)] [] := by
                  intro f9
                  induction f9 with
                  | zero => intro i J1 hm9; exact absurd hm9 (Nat.not_lt_zero _)
                  | succ f9 ih127 =>
                    intro i J1 hm127 hi hw hP1 fr
                    have he := C.arh hpt hqt (by omega)
                    have ha8 := C.ar hpt.1 hpt.2
                    have e8 := congrFun (fr 8 rfl) (tm (J 148 x))
                    have e8q := congrFun (fr 8 rfl) (tm (J 148 y))
                    refine tz_iload (pc := 127) dX10_joined_127 rfl ?_
                    refine tz_aload_n (pc := 129) dX10_joined_129 rfl rfl ?_
                    refine tz_fR (pc := 130) dX10_joined_130 fl_X10_46 r_145_0 ?_
                    refine tz_fR (pc := 133) dX10_joined_133 fl_X10_90 r_6_2 ?_
                    refine tz_aload_n (pc := 136) dX10_joined_136 rfl rfl ?_
                    refine tz_iload_n (pc := 137) dX10_joined_137 rfl rfl ?_
                    refine tz_cV (pc := 138) (c_uTerm hl n _ _ (by omega) (by omega)) vl_X10_68 dX10_joined_138 o_145 rfl rfl (Nat.le_of_ble_eq_true rfl) ⟨(Nat.le_of_ble_eq_true rfl), (Nat.le_of_ble_eq_true rfl)⟩ rfl rfl (Nat.le_of_ble_eq_true rfl) (Nat.le_of_ble_eq_true rfl) (fun r9 J_138 hq9 => ?_)
                    obtain ⟨z_138, rfl, hz_138, rfl, rfl⟩ := hq9
                    refine tz_aL (pc := 141) (z := (tm (J 148 x))) (v := (J 8 (tm (J 148 x)))) dX10_joined_141 a_8 rfl (by omega) (Eq.trans (congrFun (fr 8 rfl) (tm (J 148 x))) rfl) (fun r_141 => ?_)
                    refine tz_icmp_ge (pc := 142) (tgt := 170) dX10_joined_142 (by decide) (by omega) (by omega) (fun h_142 => ?_) (fun h_142 => ?_)
                    · refine tz_iconst (pc := 170) dX10_joined_170 ?_
                      exact tz_zret (pc := 171) (z := 1) dX10_joined_171 rfl (Or.inr rfl) (Nat.le_of_ble_eq_true rfl) (Nat.le_of_ble_eq_true rfl) ⟨Nat.le_refl _, Nat.le_add_right _ _⟩ ⟨_, rfl, (by decide), ⟨hw, hP1, by omega, fr⟩⟩
                    · refine tz_aload_n (pc := 145) dX10_joined_145 rfl rfl ?_
                      refine tz_aload_n (pc := 146) dX10_joined_146 rfl rfl ?_
                      refine tz_iload_n (pc := 147) dX10_joined_147 rfl rfl ?_
                      refine tz_iload (pc := 148) dX10_joined_148 rfl ?_
                      refine tz_cV (pc := 150) (c_part hl n _ _ _ (by omega) (by omega) b m (C.of (fun c hc => fr c (by simp [zbut]; omega))) hp0 (by rw [fr 8 rfl]; omega)) vl_X10_93 dX10_joined_150 o_145 rfl rfl (Nat.le_of_ble_eq_true rfl) ⟨(Nat.le_of_ble_eq_true rfl), (Nat.le_of_ble_eq_true rfl)⟩ rfl rfl (Nat.le_of_ble_eq_true rfl) (Nat.le_of_ble_eq_true rfl) (fun r9 J_150 hq9 => ?_)
                      obtain ⟨z_150, rfl, hz_150, rfl, hn_150⟩ := hq9
                      refine tz_aload_n (pc := 153) dX10_joined_153 rfl rfl ?_
                      refine tz_iload (pc := 154) dX10_joined_154 rfl ?_
                      refine tz_iload (pc := 156) dX10_joined_156 rfl ?_
                      refine tz_cV (pc := 158) (c_part hl n _ _ _ (by omega) (by omega) b m (C.of (fun c hc => fr c (by simp [zbut]; omega))) hq0 (by rw [fr 8 rfl]; omega)) vl_X10_93 dX10_joined_158 o_145 rfl rfl (Nat.le_of_ble_eq_true rfl) ⟨(Nat.le_of_ble_eq_true rfl), (Nat.le_of_ble_eq_true rfl)⟩ rfl rfl (Nat.le_of_ble_eq_true rfl) (Nat.le_of_ble_eq_true rfl) (fun r9 J_158 hq9 => ?_)
                      obtain ⟨z_158, rfl, hz_158, rfl, hn_158⟩ := hq9
                      refine tz_cV (pc := 161) (c_addPair hl n _ _ _ (by omega) (by omega) b m hP1 hn_150 hn_158) vl_X10_50 dX10_joined_161 o_145 rfl rfl (Nat.le_of_ble_eq_true rfl) ⟨(Nat.le_of_ble_eq_true rfl), (Nat.le_of_ble_eq_true rfl)⟩ rfl rfl (Nat.le_of_ble_eq_true rfl) (Nat.le_of_ble_eq_true rfl) (fun r9 J_161 hq9 => ?_)
                      obtain ⟨rfl, k1, k2, k3⟩ := hq9
                      refine tz_iinc (pc := 164) (z := i + 1) (L2 := [_, _, _, _, _, _]) dX10_joined_164 rfl (by omega) rfl ?_
                      refine tz_goto (pc := 167) (tgt := 127) dX10_joined_167 (by decide) ?_
                      exact ih127 (i + 1) _ (by omega) (by omega) (hw.of (Int.le_refl _) k2 (fun c hc => k3 c (by simp [zbut]; omega))) k1 ((k3.mono (fun c hc => by simp [zbut] at hc ⊢; omega)).tr fr)
                exact loop127 _ 0 _ (Nat.lt_succ_self _) (by have := C.ar hpt.1 hpt.2; omega) (UW.p8 (UW.p7 (UW.rf hU) hx ax) (by first | exact hq9 | exact hp9)) (hP.of rfl rfl rfl) (zOf.up rfl (zOf.up rfl zOf.rf))
              · refine tz_iconst (pc := 122) dX10_joined_122 ?_
                exact tz_zret (pc := 123) (z := 0) dX10_joined_123 rfl (Or.inl rfl) (Nat.le_of_ble_eq_true rfl) (Nat.le_of_ble_eq_true rfl) ⟨Nat.le_refl _, Nat.le_add_right _ _⟩ ⟨_, rfl, (by decide), ⟨(UW.p8 (UW.p7 (UW.rf hU) hx ax) (by first | exact hq9 | exact hp9)), hP.of rfl rfl rfl, by omega, (zOf.up rfl (zOf.up rfl zOf.rf))⟩⟩
            · refine tz_iconst (pc := 90) dX10_joined_90 ?_
              exact tz_zret (pc := 91) (z := 1) dX10_joined_91 rfl (Or.inr rfl) (Nat.le_of_ble_eq_true rfl) (Nat.le_of_ble_eq_true rfl) ⟨Nat.le_refl _, Nat.le_add_right _ _⟩ ⟨_, rfl, (by decide), ⟨(UW.p8 (UW.p7 (UW.rf hU) hx ax) (by first | exact hq9 | exact hp9)), hP.of rfl rfl rfl, by omega, (zOf.up rfl (zOf.up rfl zOf.rf))⟩⟩
        · refine tz_aload_n (pc := 57) dX10_joined_57 rfl rfl ?_
          refine tz_fR (pc := 58) dX10_joined_58 fl_X10_21 r_145_4 ?_
          refine tz_iload_n (pc := 61) dX10_joined_61 rfl rfl ?_
          refine tz_aload_n (pc := 62) dX10_joined_62 rfl rfl ?_
          refine tz_aload_n (pc := 63) dX10_joined_63 rfl rfl ?_
          refine tz_fR (pc := 64) dX10_joined_64 fl_X10_21 r_145_4 ?_
          refine tz_iload_n (pc := 67) dX10_joined_67 rfl rfl ?_
          refine tz_aL (pc := 68) (z := x) (v := (J 149 x)) dX10_joined_68 a_149 rfl (by omega) rfl (fun r_68 => ?_)
          refine tz_aload_n (pc := 69) dX10_joined_69 rfl rfl ?_
          refine tz_fR (pc := 70) dX10_joined_70 fl_X10_21 r_145_4 ?_
          refine tz_iload_n (pc := 73) dX10_joined_73 rfl rfl ?_
          refine tz_aL (pc := 74) (z := y) (v := (J 149 y)) dX10_joined_74 a_149 rfl (by omega) rfl (fun r_74 => ?_)
          refine tz_cV (pc := 75) (c_lesser hl n _ _ _ (by omega) (by omega) b m hm ux.2.2.2.1 uy.2.2.2.1) vl_X10_87 dX10_joined_75 o_145 rfl rfl (Nat.le_of_ble_eq_true rfl) ⟨(Nat.le_of_ble_eq_true rfl), (Nat.le_of_ble_eq_true rfl)⟩ rfl rfl (Nat.le_of_ble_eq_true rfl) (Nat.le_of_ble_eq_true rfl) (fun r9 J_75 hq9 => ?_)
          obtain ⟨zl9, rfl, hz_75, rfl, hlz⟩ := hq9
          have hl9 : nd b m zl9 := by rcases hlz with e | e <;> rw [e] <;> first | exact ux.2.2.2.1 | exact uy.2.2.2.1
          have hl8 := hl9.rg hm
          refine tz_aS (pc := 78) (z := x) dX10_joined_78 a_149 rfl (by omega) (by omega) ?_
          refine tz_iload_n (pc := 79) dX10_joined_79 rfl rfl ?_
          refine tz_iconst (pc := 80) dX10_joined_80 ?_
          refine tz_icmp_eq (pc := 81) (tgt := 90) dX10_joined_81 (by decide) (by omega) (by decide) (fun h_81 => ?_) (fun h_81 => ?_)
          · refine tz_iconst (pc := 90) dX10_joined_90 ?_
            exact tz_zret (pc := 91) (z := 1) dX10_joined_91 rfl (Or.inr rfl) (Nat.le_of_ble_eq_true rfl) (Nat.le_of_ble_eq_true rfl) ⟨Nat.le_refl _, Nat.le_add_right _ _⟩ ⟨_, rfl, (by decide), ⟨(UW.p9 (UW.p8 (UW.p7 (UW.rf hU) hx ax) (by first | exact hq9 | exact hp9)) hl9), hP.of rfl rfl rfl, by omega, (zOf.up rfl (zOf.up rfl (zOf.up rfl zOf.rf)))⟩⟩
          · refine tz_iload (pc := 84) dX10_joined_84 rfl ?_
            refine tz_iconst (pc := 86) dX10_joined_86 ?_
            refine tz_icmp_ne (pc := 87) (tgt := 92) dX10_joined_87 (by decide) (by omega) (by decide) (fun h_87 => ?_) (fun h_87 => ?_)
            · have hp0 := hp9.resolve_left (by omega)
              have hq0 := hq9.resolve_left (by omega)
              have hpr := hp0.rg hm
              have hqr := hq0.rg hm
              have hpt := hp0.ix hm
              have hqt := hq0.ix hm
              refine tz_aload_n (pc := 92) dX10_joined_92 rfl rfl ?_
              refine tz_fR (pc := 93) dX10_joined_93 fl_X10_46 r_145_0 ?_
              refine tz_fR (pc := 96) dX10_joined_96 fl_X10_84 r_6_1 ?_
              refine tz_aload_n (pc := 99) dX10_joined_99 rfl rfl ?_
              refine tz_iload_n (pc := 100) dX10_joined_100 rfl rfl ?_
              refine tz_cV (pc := 101) (c_uTerm hl n _ _ (by omega) (by omega)) vl_X10_68 dX10_joined_101 o_145 rfl rfl (Nat.le_of_ble_eq_true rfl) ⟨(Nat.le_of_ble_eq_true rfl), (Nat.le_of_ble_eq_true rfl)⟩ rfl rfl (Nat.le_of_ble_eq_true rfl) (Nat.le_of_ble_eq_true rfl) (fun r9 J_101 hq9 => ?_)
              obtain ⟨z_101, rfl, hz_101, rfl, rfl⟩ := hq9
              refine tz_aL (pc := 104) (z := (tm (J 148 x))) (v := (J 7 (tm (J 148 x)))) dX10_joined_104 a_7 rfl (by omega) rfl (fun r_104 => ?_)
              refine tz_aload_n (pc := 105) dX10_joined_105 rfl rfl ?_
              refine tz_fR (pc := 106) dX10_joined_106 fl_X10_46 r_145_0 ?_
              refine tz_fR (pc := 109) dX10_joined_109 fl_X10_84 r_6_1 ?_
              refine tz_aload_n (pc := 112) dX10_joined_112 rfl rfl ?_
              refine tz_iload (pc := 113) dX10_joined_113 rfl ?_
              refine tz_cV (pc := 115) (c_uTerm hl n _ _ (by omega) (by omega)) vl_X10_68 dX10_joined_115 o_145 rfl rfl (Nat.le_of_ble_eq_true rfl) ⟨(Nat.le_of_ble_eq_true rfl), (Nat.le_of_ble_eq_true rfl)⟩ rfl rfl (Nat.le_of_ble_eq_true rfl) (Nat.le_of_ble_eq_true rfl) (fun r9 J_115 hq9 => ?_)
              obtain ⟨z_115, rfl, hz_115, rfl, rfl⟩ := hq9
              refine tz_aL (pc := 118) (z := (tm (J 148 y))) (v := (J 7 (tm (J 148 y)))) dX10_joined_118 a_7 rfl (by omega) rfl (fun r_118 => ?_)
              refine tz_icmp_eq (pc := 119) (tgt := 124) dX10_joined_119 (by decide) (by omega) (by omega) (fun h_119 => ?_) (fun h_119 => ?_)
              · refine tz_iconst (pc := 124) dX10_joined_124 ?_
                refine tz_istore (pc := 125) (L2 := [_, _, _, _, _, _]) dX10_joined_125 (by decide) rfl ?_
                have loop127 : ∀ (f9 : Nat) (i : Int) (J1 : zJ), ((3 - i).toNat) < f9 → (0 ≤ i ∧ i ≤ J 8 (tm (J 148 x))) → (UW J1 J b m) → (PI J1 b m) → (zOf (zbut [145, 147, 148, 149, 151, 152]) J1 J) → tz_At l G M_X10_joined (tb_rm 2 0 0) none (tb_ZM G 0 0 (zQ n 0 (zqi (fun z J' => UW J' J b m ∧ PI J' b m ∧ (z = 0 ∨ z = 1) ∧ zOf (zbut [145, 147, 148, 149, 151, 152]) J' J))) (zX n 0 zN)) 0 0 n J1 127 [some (.ref 145), some (zi x), some (zi y), some (zi (J 148 x)), some (zi (J 148 y)), some (zi i)] [] := by
                  intro f9
                  induction f9 with
                  | zero => intro i J1 hm9; exact absurd hm9 (Nat.not_lt_zero _)
                  | succ f9 ih127 =>
                    intro i J1 hm127 hi hw hP1 fr
                    have he := C.arh hpt hqt (by omega)
                    have ha8 := C.ar hpt.1 hpt.2
                    have e8 := congrFun (fr 8 rfl) (tm (J 148 x))
                    have e8q := congrFun (fr 8 rfl) (tm (J 148 y))
                    refine tz_iload (pc := 127) dX10_joined_127 rfl ?_
                    refine tz_aload_n (pc := 129) dX10_joined_129 rfl rfl ?_
                    refine tz_fR (pc := 130) dX10_joined_130 fl_X10_46 r_145_0 ?_
                    refine tz_fR (pc := 133) dX10_joined_133 fl_X10_90 r_6_2 ?_
                    refine tz_aload_n (pc := 136) dX10_joined_136 rfl rfl ?_
                    refine tz_iload_n (pc := 137) dX10_joined_137 rfl rfl ?_
                    refine tz_cV (pc := 138) (c_uTerm hl n _ _ (by omega) (by omega)) vl_X10_68 dX10_joined_138 o_145 rfl rfl (Nat.le_of_ble_eq_true rfl) ⟨(Nat.le_of_ble_eq_true rfl), (Nat.le_of_ble_eq_true rfl)⟩ rfl rfl (Nat.le_of_ble_eq_true rfl) (Nat.le_of_ble_eq_true rfl) (fun r9 J_138 hq9 => ?_)
                    obtain ⟨z_138, rfl, hz_138, rfl, rfl⟩ := hq9
                    refine tz_aL (pc := 141) (z := (tm (J 148 x))) (v := (J 8 (tm (J 148 x)))) dX10_joined_141 a_8 rfl (by omega) (Eq.trans (congrFun (fr 8 rfl) (tm (J 148 x))) rfl) (fun r_141 => ?_)
                    refine tz_icmp_ge (pc := 142) (tgt := 170) dX10_joined_142 (by decide) (by omega) (by omega) (fun h_142 => ?_) (fun h_142 => ?_)
                    · refine tz_iconst (pc := 170) dX10_joined_170 ?_
                      exact tz_zret (pc := 171) (z := 1) dX10_joined_171 rfl (Or.inr rfl) (Nat.le_of_ble_eq_true rfl) (Nat.le_of_ble_eq_true rfl) ⟨Nat.le_refl _, Nat.le_add_right _ _⟩ ⟨_, rfl, (by decide), ⟨hw, hP1, by omega, fr⟩⟩
                    · refine tz_aload_n (pc := 145) dX10_joined_145 rfl rfl ?_
                      refine tz_aload_n (pc := 146) dX10_joined_146 rfl rfl ?_
                      refine tz_iload_n (pc := 147) dX10_joined_147 rfl rfl ?_
                      refine tz_iload (pc := 148) dX10_joined_148 rfl ?_
                      refine tz_cV (pc := 150) (c_part hl n _ _ _ (by omega) (by omega) b m (C.of (fun c hc => fr c (by simp [zbut]; omega))) hp0 (by rw [fr 8 rfl]; omega)) vl_X10_93 dX10_joined_150 o_145 rfl rfl (Nat.le_of_ble_eq_true rfl) ⟨(Nat.le_of_ble_eq_true rfl), (Nat.le_of_ble_eq_true rfl)⟩ rfl rfl (Nat.le_of_ble_eq_true rfl) (Nat.le_of_ble_eq_true rfl) (fun r9 J_150 hq9 => ?_)
                      obtain ⟨z_150, rfl, hz_150, rfl, hn_150⟩ := hq9
                      refine tz_aload_n (pc := 153) dX10_joined_153 rfl rfl ?_
                      refine tz_iload (pc := 154) dX10_joined_154 rfl ?_
                      refine tz_iload (pc := 156) dX10_joined_156 rfl ?_
                      refine tz_cV (pc := 158) (c_part hl n _ _ _ (by omega) (by omega) b m (C.of (fun c hc => fr c (by simp [zbut]; omega))) hq0 (by rw [fr 8 rfl]; omega)) vl_X10_93 dX10_joined_158 o_145 rfl rfl (Nat.le_of_ble_eq_true rfl) ⟨(Nat.le_of_ble_eq_true rfl), (Nat.le_of_ble_eq_true rfl)⟩ rfl rfl (Nat.le_of_ble_eq_true rfl) (Nat.le_of_ble_eq_true rfl) (fun r9 J_158 hq9 => ?_)
                      obtain ⟨z_158, rfl, hz_158, rfl, hn_158⟩ := hq9
                      refine tz_cV (pc := 161) (c_addPair hl n _ _ _ (by omega) (by omega) b m hP1 hn_150 hn_158) vl_X10_50 dX10_joined_161 o_145 rfl rfl (Nat.le_of_ble_eq_true rfl) ⟨(Nat.le_of_ble_eq_true rfl), (Nat.le_of_ble_eq_true rfl)⟩ rfl rfl (Nat.le_of_ble_eq_true rfl) (Nat.le_of_ble_eq_true rfl) (fun r9 J_161 hq9 => ?_)
                      obtain ⟨rfl, k1, k2, k3⟩ := hq9
                      refine tz_iinc (pc := 164) (z := i + 1) (L2 := [_, _, _, _, _, _]) dX10_joined_164 rfl (by omega) rfl ?_
                      refine tz_goto (pc := 167) (tgt := 127) dX10_joined_167 (by decide) ?_
                      exact ih127 (i + 1) _ (by omega) (by omega) (hw.of (Int.le_refl _) k2 (fun c hc => k3 c (by simp [zbut]; omega))) k1 ((k3.mono (fun c hc => by simp [zbut] at hc ⊢; omega)).tr fr)
                exact loop127 _ 0 _ (Nat.lt_succ_self _) (by have := C.ar hpt.1 hpt.2; omega) (UW.p9 (UW.p8 (UW.p7 (UW.rf hU) hx ax) (by first | exact hq9 | exact hp9)) hl9) (hP.of rfl rfl rfl) (zOf.up rfl (zOf.up rfl (zOf.up rfl zOf.rf)))
              · refine tz_iconst (pc := 122) dX10_joined_122 ?_
                exact tz_zret (pc := 123) (z := 0) dX10_joined_123 rfl (Or.inl rfl) (Nat.le_of_ble_eq_true rfl) (Nat.le_of_ble_eq_true rfl) ⟨Nat.le_refl _, Nat.le_add_right _ _⟩ ⟨_, rfl, (by decide), ⟨(UW.p9 (UW.p8 (UW.p7 (UW.rf hU) hx ax) (by first | exact hq9 | exact hp9)) hl9), hP.of rfl rfl rfl, by omega, (zOf.up rfl (zOf.up rfl (zOf.up rfl zOf.rf)))⟩⟩
            · refine tz_iconst (pc := 90) dX10_joined_90 ?_
              exact tz_zret (pc := 91) (z := 1) dX10_joined_91 rfl (Or.inr rfl) (Nat.le_of_ble_eq_true rfl) (Nat.le_of_ble_eq_true rfl) ⟨Nat.le_refl _, Nat.le_add_right _ _⟩ ⟨_, rfl, (by decide), ⟨(UW.p9 (UW.p8 (UW.p7 (UW.rf hU) hx ax) (by first | exact hq9 | exact hp9)) hl9), hP.of rfl rfl rfl, by omega, (zOf.up rfl (zOf.up rfl (zOf.up rfl zOf.rf)))⟩⟩
    · refine tz_iload (pc := 39) dX10_joined_39 rfl ?_
      refine tz_goto (pc := 41) (tgt := 45) dX10_joined_41 (by decide) ?_
      refine tz_aS (pc := 45) (z := x) dX10_joined_45 a_148 rfl (by omega) (by omega) ?_
      refine tz_iload_n (pc := 46) dX10_joined_46 rfl rfl ?_
      refine tz_iconst (pc := 47) dX10_joined_47 ?_
      refine tz_icmp_ne (pc := 48) (tgt := 79) dX10_joined_48 (by decide) (by omega) (by decide) (fun h_48 => ?_) (fun h_48 => ?_)
      · refine tz_iload_n (pc := 79) dX10_joined_79 rfl rfl ?_
        refine tz_iconst (pc := 80) dX10_joined_80 ?_
        refine tz_icmp_eq (pc := 81) (tgt := 90) dX10_joined_81 (by decide) (by omega) (by decide) (fun h_81 => ?_) (fun h_81 => ?_)
        · refine tz_iconst (pc := 90) dX10_joined_90 ?_
          exact tz_zret (pc := 91) (z := 1) dX10_joined_91 rfl (Or.inr rfl) (Nat.le_of_ble_eq_true rfl) (Nat.le_of_ble_eq_true rfl) ⟨Nat.le_refl _, Nat.le_add_right _ _⟩ ⟨_, rfl, (by decide), ⟨(UW.p8 (UW.p7 (UW.rf hU) hx ax) (by first | exact hq9 | exact hp9)), hP.of rfl rfl rfl, by omega, (zOf.up rfl (zOf.up rfl zOf.rf))⟩⟩
        · refine tz_iload (pc := 84) dX10_joined_84 rfl ?_
          refine tz_iconst (pc := 86) dX10_joined_86 ?_
          refine tz_icmp_ne (pc := 87) (tgt := 92) dX10_joined_87 (by decide) (by omega) (by decide) (fun h_87 => ?_) (fun h_87 => ?_)
          · have hp0 := hp9.resolve_left (by omega)
            have hq0 := hq9.resolve_left (by omega)
            have hpr := hp0.rg hm
            have hqr := hq0.rg hm
            have hpt := hp0.ix hm
            have hqt := hq0.ix hm
            refine tz_aload_n (pc := 92) dX10_joined_92 rfl rfl ?_
            refine tz_fR (pc := 93) dX10_joined_93 fl_X10_46 r_145_0 ?_
            refine tz_fR (pc := 96) dX10_joined_96 fl_X10_84 r_6_1 ?_
            refine tz_aload_n (pc := 99) dX10_joined_99 rfl rfl ?_
            refine tz_iload_n (pc := 100) dX10_joined_100 rfl rfl ?_
            refine tz_cV (pc := 101) (c_uTerm hl n _ _ (by omega) (by omega)) vl_X10_68 dX10_joined_101 o_145 rfl rfl (Nat.le_of_ble_eq_true rfl) ⟨(Nat.le_of_ble_eq_true rfl), (Nat.le_of_ble_eq_true rfl)⟩ rfl rfl (Nat.le_of_ble_eq_true rfl) (Nat.le_of_ble_eq_true rfl) (fun r9 J_101 hq9 => ?_)
            obtain ⟨z_101, rfl, hz_101, rfl, rfl⟩ := hq9
            refine tz_aL (pc := 104) (z := (tm (J 148 x))) (v := (J 7 (tm (J 148 x)))) dX10_joined_104 a_7 rfl (by omega) rfl (fun r_104 => ?_)
            refine tz_aload_n (pc := 105) dX10_joined_105 rfl rfl ?_
            refine tz_fR (pc := 106) dX10_joined_106 fl_X10_46 r_145_0 ?_
            refine tz_fR (pc := 109) dX10_joined_109 fl_X10_84 r_6_1 ?_
            refine tz_aload_n (pc := 112) dX10_joined_112 rfl rfl ?_
            refine tz_iload (pc := 113) dX10_joined_113 rfl ?_
            refine tz_cV (pc := 115) (c_uTerm hl n _ _ (by omega) (by omega)) vl_X10_68 dX10_joined_115 o_145 rfl rfl (Nat.le_of_ble_eq_true rfl) ⟨(Nat.le_of_ble_eq_true rfl), (Nat.le_of_ble_eq_true rfl)⟩ rfl rfl (Nat.le_of_ble_eq_true rfl) (Nat.le_of_ble_eq_true rfl) (fun r9 J_115 hq9 => ?_)
            obtain ⟨z_115, rfl, hz_115, rfl, rfl⟩ := hq9
            refine tz_aL (pc := 118) (z := (tm (J 148 y))) (v := (J 7 (tm (J 148 y)))) dX10_joined_118 a_7 rfl (by omega) rfl (fun r_118 => ?_)
            refine tz_icmp_eq (pc := 119) (tgt := 124) dX10_joined_119 (by decide) (by omega) (by omega) (fun h_119 => ?_) (fun h_119 => ?_)
            · refine tz_iconst (pc := 124) dX10_joined_124 ?_
              refine tz_istore (pc := 125) (L2 := [_, _, _, _, _, _]) dX10_joined_125 (by decide) rfl ?_
              have loop127 : ∀ (f9 : Nat) (i : Int) (J1 : zJ), ((3 - i).toNat) < f9 → (0 ≤ i ∧ i ≤ J 8 (tm (J 148 x))) → (UW J1 J b m) → (PI J1 b m) → (zOf (zbut [145, 147, 148, 149, 151, 152]) J1 J) → tz_At l G M_X10_joined (tb_rm 2 0 0) none (tb_ZM G 0 0 (zQ n 0 (zqi (fun z J' => UW J' J b m ∧ PI J' b m ∧ (z = 0 ∨ z = 1) ∧ zOf (zbut [145, 147, 148, 149, 151, 152]) J' J))) (zX n 0 zN)) 0 0 n J1 127 [some (.ref 145), some (zi x), some (zi y), some (zi (J 148 x)), some (zi (J 148 y)), some (zi i)] [] := by
                intro f9
                induction f9 with
                | zero => intro i J1 hm9; exact absurd hm9 (Nat.not_lt_zero _)
                | succ f9 ih127 =>
                  intro i J1 hm127 hi hw hP1 fr
                  have he := C.arh hpt hqt (by omega)
                  have ha8 := C.ar hpt.1 hpt.2
                  have e8 := congrFun (fr 8 rfl) (tm (J 148 x))
                  have e8q := congrFun (fr 8 rfl) (tm (J 148 y))
                  refine tz_iload (pc := 127) dX10_joined_127 rfl ?_
                  refine tz_aload_n (pc := 129) dX10_joined_129 rfl rfl ?_
                  refine tz_fR (pc := 130) dX10_joined_130 fl_X10_46 r_145_0 ?_
                  refine tz_fR (pc := 133) dX10_joined_133 fl_X10_90 r_6_2 ?_
                  refine tz_aload_n (pc := 136) dX10_joined_136 rfl rfl ?_
                  refine tz_iload_n (pc := 137) dX10_joined_137 rfl rfl ?_
                  refine tz_cV (pc := 138) (c_uTerm hl n _ _ (by omega) (by omega)) vl_X10_68 dX10_joined_138 o_145 rfl rfl (Nat.le_of_ble_eq_true rfl) ⟨(Nat.le_of_ble_eq_true rfl), (Nat.le_of_ble_eq_true rfl)⟩ rfl rfl (Nat.le_of_ble_eq_true rfl) (Nat.le_of_ble_eq_true rfl) (fun r9 J_138 hq9 => ?_)
                  obtain ⟨z_138, rfl, hz_138, rfl, rfl⟩ := hq9
                  refine tz_aL (pc := 141) (z := (tm (J 148 x))) (v := (J 8 (tm (J 148 x)))) dX10_joined_141 a_8 rfl (by omega) (Eq.trans (congrFun (fr 8 rfl) (tm (J 148 x))) rfl) (fun r_141 => ?_)
                  refine tz_icmp_ge (pc := 142) (tgt := 170) dX10_joined_142 (by decide) (by omega) (by omega) (fun h_142 => ?_) (fun h_142 => ?_)
                  · refine tz_iconst (pc := 170) dX10_joined_170 ?_
                    exact tz_zret (pc := 171) (z := 1) dX10_joined_171 rfl (Or.inr rfl) (Nat.le_of_ble_eq_true rfl) (Nat.le_of_ble_eq_true rfl) ⟨Nat.le_refl _, Nat.le_add_right _ _⟩ ⟨_, rfl, (by decide), ⟨hw, hP1, by omega, fr⟩⟩
                  · refine tz_aload_n (pc := 145) dX10_joined_145 rfl rfl ?_
                    refine tz_aload_n (pc := 146) dX10_joined_146 rfl rfl ?_
                    refine tz_iload_n (pc := 147) dX10_joined_147 rfl rfl ?_
                    refine tz_iload (pc := 148) dX10_joined_148 rfl ?_
                    refine tz_cV (pc := 150) (c_part hl n _ _ _ (by omega) (by omega) b m (C.of (fun c hc => fr c (by simp [zbut]; omega))) hp0 (by rw [fr 8 rfl]; omega)) vl_X10_93 dX10_joined_150 o_145 rfl rfl (Nat.le_of_ble_eq_true rfl) ⟨(Nat.le_of_ble_eq_true rfl), (Nat.le_of_ble_eq_true rfl)⟩ rfl rfl (Nat.le_of_ble_eq_true rfl) (Nat.le_of_ble_eq_true rfl) (fun r9 J_150 hq9 => ?_)
                    obtain ⟨z_150, rfl, hz_150, rfl, hn_150⟩ := hq9
                    refine tz_aload_n (pc := 153) dX10_joined_153 rfl rfl ?_
                    refine tz_iload (pc := 154) dX10_joined_154 rfl ?_
                    refine tz_iload (pc := 156) dX10_joined_156 rfl ?_
                    refine tz_cV (pc := 158) (c_part hl n _ _ _ (by omega) (by omega) b m (C.of (fun c hc => fr c (by simp [zbut]; omega))) hq0 (by rw [fr 8 rfl]; omega)) vl_X10_93 dX10_joined_158 o_145 rfl rfl (Nat.le_of_ble_eq_true rfl) ⟨(Nat.le_of_ble_eq_true rfl), (Nat.le_of_ble_eq_true rfl)⟩ rfl rfl (Nat.le_of_ble_eq_true rfl) (Nat.le_of_ble_eq_true rfl) (fun r9 J_158 hq9 => ?_)
                    obtain ⟨z_158, rfl, hz_158, rfl, hn_158⟩ := hq9
                    refine tz_cV (pc := 161) (c_addPair hl n _ _ _ (by omega) (by omega) b m hP1 hn_150 hn_158) vl_X10_50 dX10_joined_161 o_145 rfl rfl (Nat.le_of_ble_eq_true rfl) ⟨(Nat.le_of_ble_eq_true rfl), (Nat.le_of_ble_eq_true rfl)⟩ rfl rfl (Nat.le_of_ble_eq_true rfl) (Nat.le_of_ble_eq_true rfl) (fun r9 J_161 hq9 => ?_)
                    obtain ⟨rfl, k1, k2, k3⟩ := hq9
                    refine tz_iinc (pc := 164) (z := i + 1) (L2 := [_, _, _, _, _, _]) dX10_joined_164 rfl (by omega) rfl ?_
                    refine tz_goto (pc := 167) (tgt := 127) dX10_joined_167 (by decide) ?_
                    exact ih127 (i + 1) _ (by omega) (by omega) (hw.of (Int.le_refl _) k2 (fun c hc => k3 c (by simp [zbut]; omega))) k1 ((k3.mono (fun c hc => by simp [zbut] at hc ⊢; omega)).tr fr)
              exact loop127 _ 0 _ (Nat.lt_succ_self _) (by have := C.ar hpt.1 hpt.2; omega) (UW.p8 (UW.p7 (UW.rf hU) hx ax) (by first | exact hq9 | exact hp9)) (hP.of rfl rfl rfl) (zOf.up rfl (zOf.up rfl zOf.rf))
            · refine tz_iconst (pc := 122) dX10_joined_122 ?_
              exact tz_zret (pc := 123) (z := 0) dX10_joined_123 rfl (Or.inl rfl) (Nat.le_of_ble_eq_true rfl) (Nat.le_of_ble_eq_true rfl) ⟨Nat.le_refl _, Nat.le_add_right _ _⟩ ⟨_, rfl, (by decide), ⟨(UW.p8 (UW.p7 (UW.rf hU) hx ax) (by first | exact hq9 | exact hp9)), hP.of rfl rfl rfl, by omega, (zOf.up rfl (zOf.up rfl zOf.rf))⟩⟩
          · refine tz_iconst (pc := 90) dX10_joined_90 ?_
            exact tz_zret (pc := 91) (z := 1) dX10_joined_91 rfl (Or.inr rfl) (Nat.le_of_ble_eq_true rfl) (Nat.le_of_ble_eq_true rfl) ⟨Nat.le_refl _, Nat.le_add_right _ _⟩ ⟨_, rfl, (by decide), ⟨(UW.p8 (UW.p7 (UW.rf hU) hx ax) (by first | exact hq9 | exact hp9)), hP.of rfl rfl rfl, by omega, (zOf.up rfl (zOf.up rfl zOf.rf))⟩⟩
      · refine tz_iload (pc := 51) dX10_joined_51 rfl ?_
        refine tz_iconst (pc := 53) dX10_joined_53 ?_
        refine tz_icmp_ne (pc := 54) (tgt := 79) dX10_joined_54 (by decide) (by omega) (by decide) (fun h_54 => ?_) (fun h_54 => ?_)
        · refine tz_iload_n (pc := 79) dX10_joined_79 rfl rfl ?_
          refine tz_iconst (pc := 80) dX10_joined_80 ?_
          refine tz_icmp_eq (pc := 81) (tgt := 90) dX10_joined_81 (by decide) (by omega) (by decide) (fun h_81 => ?_) (fun h_81 => ?_)
          · refine tz_iconst (pc := 90) dX10_joined_90 ?_
            exact tz_zret (pc := 91) (z := 1) dX10_joined_91 rfl (Or.inr rfl) (Nat.le_of_ble_eq_true rfl) (Nat.le_of_ble_eq_true rfl) ⟨Nat.le_refl _, Nat.le_add_right _ _⟩ ⟨_, rfl, (by decide), ⟨(UW.p8 (UW.p7 (UW.rf hU) hx ax) (by first | exact hq9 | exact hp9)), hP.of rfl rfl rfl, by omega, (zOf.up rfl (zOf.up rfl zOf.rf))⟩⟩
          · refine tz_iload (pc := 84) dX10_joined_84 rfl ?_
            refine tz_iconst (pc := 86) dX10_joined_86 ?_
            refine tz_icmp_ne (pc := 87) (tgt := 92) dX10_joined_87 (by decide) (by omega) (by decide) (fun h_87 => ?_) (fun h_87 => ?_)
            · have hp0 := hp9.resolve_left (by omega)
              have hq0 := hq9.resolve_left (by omega)
              have hpr := hp0.rg hm
              have hqr := hq0.rg hm
              have hpt := hp0.ix hm
              have hqt := hq0.ix hm
              refine tz_aload_n (pc := 92) dX10_joined_92 rfl rfl ?_
              refine tz_fR (pc := 93) dX10_joined_93 fl_X10_46 r_145_0 ?_
              refine tz_fR (pc := 96) dX10_joined_96 fl_X10_84 r_6_1 ?_
              refine tz_aload_n (pc := 99) dX10_joined_99 rfl rfl ?_
              refine tz_iload_n (pc := 100) dX10_joined_100 rfl rfl ?_
              refine tz_cV (pc := 101) (c_uTerm hl n _ _ (by omega) (by omega)) vl_X10_68 dX10_joined_101 o_145 rfl rfl (Nat.le_of_ble_eq_true rfl) ⟨(Nat.le_of_ble_eq_true rfl), (Nat.le_of_ble_eq_true rfl)⟩ rfl rfl (Nat.le_of_ble_eq_true rfl) (Nat.le_of_ble_eq_true rfl) (fun r9 J_101 hq9 => ?_)
              obtain ⟨z_101, rfl, hz_101, rfl, rfl⟩ := hq9
              refine tz_aL (pc := 104) (z := (tm (J 148 x))) (v := (J 7 (tm (J 148 x)))) dX10_joined_104 a_7 rfl (by omega) rfl (fun r_104 => ?_)
              refine tz_aload_n (pc := 105) dX10_joined_105 rfl rfl ?_
              refine tz_fR (pc := 106) dX10_joined_106 fl_X10_46 r_145_0 ?_
              refine tz_fR (pc := 109) dX10_joined_109 fl_X10_84 r_6_1 ?_
              refine tz_aload_n (pc := 112) dX10_joined_112 rfl rfl ?_
              refine tz_iload (pc := 113) dX10_joined_113 rfl ?_
              refine tz_cV (pc := 115) (c_uTerm hl n _ _ (by omega) (by omega)) vl_X10_68 dX10_joined_115 o_145 rfl rfl (Nat.le_of_ble_eq_true rfl) ⟨(Nat.le_of_ble_eq_true rfl), (Nat.le_of_ble_eq_true rfl)⟩ rfl rfl (Nat.le_of_ble_eq_true rfl) (Nat.le_of_ble_eq_true rfl) (fun r9 J_115 hq9 => ?_)
              obtain ⟨z_115, rfl, hz_115, rfl, rfl⟩ := hq9
              refine tz_aL (pc := 118) (z := (tm (J 148 y))) (v := (J 7 (tm (J 148 y)))) dX10_joined_118 a_7 rfl (by omega) rfl (fun r_118 => ?_)
              refine tz_icmp_eq (pc := 119) (tgt := 124) dX10_joined_119 (by decide) (by omega) (by omega) (fun h_119 => ?_) (fun h_119 => ?_)
              · refine tz_iconst (pc := 124) dX10_joined_124 ?_
                refine tz_istore (pc := 125) (L2 := [_, _, _, _, _, _]) dX10_joined_125 (by decide) rfl ?_
                have loop127 : ∀ (f9 : Nat) (i : Int) (J1 : zJ), ((3 - i).toNat) < f9 → (0 ≤ i ∧ i ≤ J 8 (tm (J 148 x))) → (UW J1 J b m) → (PI J1 b m) → (zOf (zbut [145, 147, 148, 149, 151, 152]) J1 J) → tz_At l G M_X10_joined (tb_rm 2 0 0) none (tb_ZM G 0 0 (zQ n 0 (zqi (fun z J' => UW J' J b m ∧ PI J' b m ∧ (z = 0 ∨ z = 1) ∧ zOf (zbut [145, 147, 148, 149, 151, 152]) J' J))) (zX n 0 zN)) 0 0 n J1 127 [some (.ref 145), some (zi x), some (zi y), some (zi (J 148 x)), some (zi (J 148 y)), some (zi i)] [] := by
                  intro f9
                  induction f9 with
                  | zero => intro i J1 hm9; exact absurd hm9 (Nat.not_lt_zero _)
                  | succ f9 ih127 =>
                    intro i J1 hm127 hi hw hP1 fr
                    have he := C.arh hpt hqt (by omega)
                    have ha8 := C.ar hpt.1 hpt.2
                    have e8 := congrFun (fr 8 rfl) (tm (J 148 x))
                    have e8q := congrFun (fr 8 rfl) (tm (J 148 y))
                    refine tz_iload (pc := 127) dX10_joined_127 rfl ?_
                    refine tz_aload_n (pc := 129) dX10_joined_129 rfl rfl ?_
                    refine tz_fR (pc := 130) dX10_joined_130 fl_X10_46 r_145_0 ?_
                    refine tz_fR (pc := 133) dX10_joined_133 fl_X10_90 r_6_2 ?_
                    refine tz_aload_n (pc := 136) dX10_joined_136 rfl rfl ?_
                    refine tz_iload_n (pc := 137) dX10_joined_137 rfl rfl ?_
                    refine tz_cV (pc := 138) (c_uTerm hl n _ _ (by omega) (by omega)) vl_X10_68 dX10_joined_138 o_145 rfl rfl (Nat.le_of_ble_eq_true rfl) ⟨(Nat.le_of_ble_eq_true rfl), (Nat.le_of_ble_eq_true rfl)⟩ rfl rfl (Nat.le_of_ble_eq_true rfl) (Nat.le_of_ble_eq_true rfl) (fun r9 J_138 hq9 => ?_)
                    obtain ⟨z_138, rfl, hz_138, rfl, rfl⟩ := hq9
                    refine tz_aL (pc := 141) (z := (tm (J 148 x))) (v := (J 8 (tm (J 148 x)))) dX10_joined_141 a_8 rfl (by omega) (Eq.trans (congrFun (fr 8 rfl) (tm (J 148 x))) rfl) (fun r_141 => ?_)
                    refine tz_icmp_ge (pc := 142) (tgt := 170) dX10_joined_142 (by decide) (by omega) (by omega) (fun h_142 => ?_) (fun h_142 => ?_)
                    · refine tz_iconst (pc := 170) dX10_joined_170 ?_
                      exact tz_zret (pc := 171) (z := 1) dX10_joined_171 rfl (Or.inr rfl) (Nat.le_of_ble_eq_true rfl) (Nat.le_of_ble_eq_true rfl) ⟨Nat.le_refl _, Nat.le_add_right _ _⟩ ⟨_, rfl, (by decide), ⟨hw, hP1, by omega, fr⟩⟩
                    · refine tz_aload_n (pc := 145) dX10_joined_145 rfl rfl ?_
                      refine tz_aload_n (pc := 146) dX10_joined_146 rfl rfl ?_
                      refine tz_iload_n (pc := 147) dX10_joined_147 rfl rfl ?_
                      refine tz_iload (pc := 148) dX10_joined_148 rfl ?_
                      refine tz_cV (pc := 150) (c_part hl n _ _ _ (by omega) (by omega) b m (C.of (fun c hc => fr c (by simp [zbut]; omega))) hp0 (by rw [fr 8 rfl]; omega)) vl_X10_93 dX10_joined_150 o_145 rfl rfl (Nat.le_of_ble_eq_true rfl) ⟨(Nat.le_of_ble_eq_true rfl), (Nat.le_of_ble_eq_true rfl)⟩ rfl rfl (Nat.le_of_ble_eq_true rfl) (Nat.le_of_ble_eq_true rfl) (fun r9 J_150 hq9 => ?_)
                      obtain ⟨z_150, rfl, hz_150, rfl, hn_150⟩ := hq9
                      refine tz_aload_n (pc := 153) dX10_joined_153 rfl rfl ?_
                      refine tz_iload (pc := 154) dX10_joined_154 rfl ?_
                      refine tz_iload (pc := 156) dX10_joined_156 rfl ?_
                      refine tz_cV (pc := 158) (c_part hl n _ _ _ (by omega) (by omega) b m (C.of (fun c hc => fr c (by simp [zbut]; omega))) hq0 (by rw [fr 8 rfl]; omega)) vl_X10_93 dX10_joined_158 o_145 rfl rfl (Nat.le_of_ble_eq_true rfl) ⟨(Nat.le_of_ble_eq_true rfl), (Nat.le_of_ble_eq_true rfl)⟩ rfl rfl (Nat.le_of_ble_eq_true rfl) (Nat.le_of_ble_eq_true rfl) (fun r9 J_158 hq9 => ?_)
                      obtain ⟨z_158, rfl, hz_158, rfl, hn_158⟩ := hq9
                      refine tz_cV (pc := 161) (c_addPair hl n _ _ _ (by omega) (by omega) b m hP1 hn_150 hn_158) vl_X10_50 dX10_joined_161 o_145 rfl rfl (Nat.le_of_ble_eq_true rfl) ⟨(Nat.le_of_ble_eq_true rfl), (Nat.le_of_ble_eq_true rfl)⟩ rfl rfl (Nat.le_of_ble_eq_true rfl) (Nat.le_of_ble_eq_true rfl) (fun r9 J_161 hq9 => ?_)
                      obtain ⟨rfl, k1, k2, k3⟩ := hq9
                      refine tz_iinc (pc := 164) (z := i + 1) (L2 := [_, _, _, _, _, _]) dX10_joined_164 rfl (by omega) rfl ?_
                      refine tz_goto (pc := 167) (tgt := 127) dX10_joined_167 (by decide) ?_
                      exact ih127 (i + 1) _ (by omega) (by omega) (hw.of (Int.le_refl _) k2 (fun c hc => k3 c (by simp [zbut]; omega))) k1 ((k3.mono (fun c hc => by simp [zbut] at hc ⊢; omega)).tr fr)
                exact loop127 _ 0 _ (Nat.lt_succ_self _) (by have := C.ar hpt.1 hpt.2; omega) (UW.p8 (UW.p7 (UW.rf hU) hx ax) (by first | exact hq9 | exact hp9)) (hP.of rfl rfl rfl) (zOf.up rfl (zOf.up rfl zOf.rf))
              · refine tz_iconst (pc := 122) dX10_joined_122 ?_
                exact tz_zret (pc := 123) (z := 0) dX10_joined_123 rfl (Or.inl rfl) (Nat.le_of_ble_eq_true rfl) (Nat.le_of_ble_eq_true rfl) ⟨Nat.le_refl _, Nat.le_add_right _ _⟩ ⟨_, rfl, (by decide), ⟨(UW.p8 (UW.p7 (UW.rf hU) hx ax) (by first | exact hq9 | exact hp9)), hP.of rfl rfl rfl, by omega, (zOf.up rfl (zOf.up rfl zOf.rf))⟩⟩
            · refine tz_iconst (pc := 90) dX10_joined_90 ?_
              exact tz_zret (pc := 91) (z := 1) dX10_joined_91 rfl (Or.inr rfl) (Nat.le_of_ble_eq_true rfl) (Nat.le_of_ble_eq_true rfl) ⟨Nat.le_refl _, Nat.le_add_right _ _⟩ ⟨_, rfl, (by decide), ⟨(UW.p8 (UW.p7 (UW.rf hU) hx ax) (by first | exact hq9 | exact hp9)), hP.of rfl rfl rfl, by omega, (zOf.up rfl (zOf.up rfl zOf.rf))⟩⟩
        · refine tz_aload_n (pc := 57) dX10_joined_57 rfl rfl ?_
          refine tz_fR (pc := 58) dX10_joined_58 fl_X10_21 r_145_4 ?_
          refine tz_iload_n (pc := 61) dX10_joined_61 rfl rfl ?_
          refine tz_aload_n (pc := 62) dX10_joined_62 rfl rfl ?_
          refine tz_aload_n (pc := 63) dX10_joined_63 rfl rfl ?_
          refine tz_fR (pc := 64) dX10_joined_64 fl_X10_21 r_145_4 ?_
          refine tz_iload_n (pc := 67) dX10_joined_67 rfl rfl ?_
          refine tz_aL (pc := 68) (z := x) (v := (J 149 x)) dX10_joined_68 a_149 rfl (by omega) rfl (fun r_68 => ?_)
          refine tz_aload_n (pc := 69) dX10_joined_69 rfl rfl ?_
          refine tz_fR (pc := 70) dX10_joined_70 fl_X10_21 r_145_4 ?_
          refine tz_iload_n (pc := 73) dX10_joined_73 rfl rfl ?_
          refine tz_aL (pc := 74) (z := y) (v := (J 149 y)) dX10_joined_74 a_149 rfl (by omega) rfl (fun r_74 => ?_)
          refine tz_cV (pc := 75) (c_lesser hl n _ _ _ (by omega) (by omega) b m hm ux.2.2.2.1 uy.2.2.2.1) vl_X10_87 dX10_joined_75 o_145 rfl rfl (Nat.le_of_ble_eq_true rfl) ⟨(Nat.le_of_ble_eq_true rfl), (Nat.le_of_ble_eq_true rfl)⟩ rfl rfl (Nat.le_of_ble_eq_true rfl) (Nat.le_of_ble_eq_true rfl) (fun r9 J_75 hq9 => ?_)
          obtain ⟨zl9, rfl, hz_75, rfl, hlz⟩ := hq9
          have hl9 : nd b m zl9 := by rcases hlz with e | e <;> rw [e] <;> first | exact ux.2.2.2.1 | exact uy.2.2.2.1
          have hl8 := hl9.rg hm
          refine tz_aS (pc := 78) (z := x) dX10_joined_78 a_149 rfl (by omega) (by omega) ?_
          refine tz_iload_n (pc := 79) dX10_joined_79 rfl rfl ?_
          refine tz_iconst (pc := 80) dX10_joined_80 ?_
          refine tz_icmp_eq (pc := 81) (tgt := 90) dX10_joined_81 (by decide) (by omega) (by decide) (fun h_81 => ?_) (fun h_81 => ?_)
          · refine tz_iconst (pc := 90) dX10_joined_90 ?_
            exact tz_zret (pc := 91) (z := 1) dX10_joined_91 rfl (Or.inr rfl) (Nat.le_of_ble_eq_true rfl) (Nat.le_of_ble_eq_true rfl) ⟨Nat.le_refl _, Nat.le_add_right _ _⟩ ⟨_, rfl, (by decide), ⟨(UW.p9 (UW.p8 (UW.p7 (UW.rf hU) hx ax) (by first | exact hq9 | exact hp9)) hl9), hP.of rfl rfl rfl, by omega, (zOf.up rfl (zOf.up rfl (zOf.up rfl zOf.rf)))⟩⟩
          · refine tz_iload (pc := 84) dX10_joined_84 rfl ?_
            refine tz_iconst (pc := 86) dX10_joined_86 ?_
            refine tz_icmp_ne (pc := 87) (tgt := 92) dX10_joined_87 (by decide) (by omega) (by decide) (fun h_87 => ?_) (fun h_87 => ?_)
            · have hp0 := hp9.resolve_left (by omega)
              have hq0 := hq9.resolve_left (by omega)
              have hpr := hp0.rg hm
              have hqr := hq0.rg hm
              have hpt := hp0.ix hm
              have hqt := hq0.ix hm
              refine tz_aload_n (pc := 92) dX10_joined_92 rfl rfl ?_
              refine tz_fR (pc := 93) dX10_joined_93 fl_X10_46 r_145_0 ?_
              refine tz_fR (pc := 96) dX10_joined_96 fl_X10_84 r_6_1 ?_
              refine tz_aload_n (pc := 99) dX10_joined_99 rfl rfl ?_
              refine tz_iload_n (pc := 100) dX10_joined_100 rfl rfl ?_
              refine tz_cV (pc := 101) (c_uTerm hl n _ _ (by omega) (by omega)) vl_X10_68 dX10_joined_101 o_145 rfl rfl (Nat.le_of_ble_eq_true rfl) ⟨(Nat.le_of_ble_eq_true rfl), (Nat.le_of_ble_eq_true rfl)⟩ rfl rfl (Nat.le_of_ble_eq_true rfl) (Nat.le_of_ble_eq_true rfl) (fun r9 J_101 hq9 => ?_)
              obtain ⟨z_101, rfl, hz_101, rfl, rfl⟩ := hq9
              refine tz_aL (pc := 104) (z := (tm (J 148 x))) (v := (J 7 (tm (J 148 x)))) dX10_joined_104 a_7 rfl (by omega) rfl (fun r_104 => ?_)
              refine tz_aload_n (pc := 105) dX10_joined_105 rfl rfl ?_
              refine tz_fR (pc := 106) dX10_joined_106 fl_X10_46 r_145_0 ?_
              refine tz_fR (pc := 109) dX10_joined_109 fl_X10_84 r_6_1 ?_
              refine tz_aload_n (pc := 112) dX10_joined_112 rfl rfl ?_
              refine tz_iload (pc := 113) dX10_joined_113 rfl ?_
              refine tz_cV (pc := 115) (c_uTerm hl n _ _ (by omega) (by omega)) vl_X10_68 dX10_joined_115 o_145 rfl rfl (Nat.le_of_ble_eq_true rfl) ⟨(Nat.le_of_ble_eq_true rfl), (Nat.le_of_ble_eq_true rfl)⟩ rfl rfl (Nat.le_of_ble_eq_true rfl) (Nat.le_of_ble_eq_true rfl) (fun r9 J_115 hq9 => ?_)
              obtain ⟨z_115, rfl, hz_115, rfl, rfl⟩ := hq9
              refine tz_aL (pc := 118) (z := (tm (J 148 y))) (v := (J 7 (tm (J 148 y)))) dX10_joined_118 a_7 rfl (by omega) rfl (fun r_118 => ?_)
              refine tz_icmp_eq (pc := 119) (tgt := 124) dX10_joined_119 (by decide) (by omega) (by omega) (fun h_119 => ?_) (fun h_119 => ?_)
              · refine tz_iconst (pc := 124) dX10_joined_124 ?_
                refine tz_istore (pc := 125) (L2 := [_, _, _, _, _, _]) dX10_joined_125 (by decide) rfl ?_
                have loop127 : ∀ (f9 : Nat) (i : Int) (J1 : zJ), ((3 - i).toNat) < f9 → (0 ≤ i ∧ i ≤ J 8 (tm (J 148 x))) → (UW J1 J b m) → (PI J1 b m) → (zOf (zbut [145, 147, 148, 149, 151, 152]) J1 J) → tz_At l G M_X10_joined (tb_rm 2 0 0) none (tb_ZM G 0 0 (zQ n 0 (zqi (fun z J' => UW J' J b m ∧ PI J' b m ∧ (z = 0 ∨ z = 1) ∧ zOf (zbut [145, 147, 148, 149, 151, 152]) J' J))) (zX n 0 zN)) 0 0 n J1 127 [some (.ref 145), some (zi x), some (zi y), some (zi (J 148 x)), some (zi (J 148 y)), some (zi i)] [] := by
                  intro f9
                  induction f9 with
                  | zero => intro i J1 hm9; exact absurd hm9 (Nat.not_lt_zero _)
                  | succ f9 ih127 =>
                    intro i J1 hm127 hi hw hP1 fr
                    have he := C.arh hpt hqt (by omega)
                    have ha8 := C.ar hpt.1 hpt.2
                    have e8 := congrFun (fr 8 rfl) (tm (J 148 x))
                    have e8q := congrFun (fr 8 rfl) (tm (J 148 y))
                    refine tz_iload (pc := 127) dX10_joined_127 rfl ?_
                    refine tz_aload_n (pc := 129) dX10_joined_129 rfl rfl ?_
                    refine tz_fR (pc := 130) dX10_joined_130 fl_X10_46 r_145_0 ?_
                    refine tz_fR (pc := 133) dX10_joined_133 fl_X10_90 r_6_2 ?_
                    refine tz_aload_n (pc := 136) dX10_joined_136 rfl rfl ?_
                    refine tz_iload_n (pc := 137) dX10_joined_137 rfl rfl ?_
                    refine tz_cV (pc := 138) (c_uTerm hl n _ _ (by omega) (by omega)) vl_X10_68 dX10_joined_138 o_145 rfl rfl (Nat.le_of_ble_eq_true rfl) ⟨(Nat.le_of_ble_eq_true rfl), (Nat.le_of_ble_eq_true rfl)⟩ rfl rfl (Nat.le_of_ble_eq_true rfl) (Nat.le_of_ble_eq_true rfl) (fun r9 J_138 hq9 => ?_)
                    obtain ⟨z_138, rfl, hz_138, rfl, rfl⟩ := hq9
                    refine tz_aL (pc := 141) (z := (tm (J 148 x))) (v := (J 8 (tm (J 148 x)))) dX10_joined_141 a_8 rfl (by omega) (Eq.trans (congrFun (fr 8 rfl) (tm (J 148 x))) rfl) (fun r_141 => ?_)
                    refine tz_icmp_ge (pc := 142) (tgt := 170) dX10_joined_142 (by decide) (by omega) (by omega) (fun h_142 => ?_) (fun h_142 => ?_)
                    · refine tz_iconst (pc := 170) dX10_joined_170 ?_
                      exact tz_zret (pc := 171) (z := 1) dX10_joined_171 rfl (Or.inr rfl) (Nat.le_of_ble_eq_true rfl) (Nat.le_of_ble_eq_true rfl) ⟨Nat.le_refl _, Nat.le_add_right _ _⟩ ⟨_, rfl, (by decide), ⟨hw, hP1, by omega, fr⟩⟩
                    · refine tz_aload_n (pc := 145) dX10_joined_145 rfl rfl ?_
                      refine tz_aload_n (pc := 146) dX10_joined_146 rfl rfl ?_
                      refine tz_iload_n (pc := 147) dX10_joined_147 rfl rfl ?_
                      refine tz_iload (pc := 148) dX10_joined_148 rfl ?_
                      refine tz_cV (pc := 150) (c_part hl n _ _ _ (by omega) (by omega) b m (C.of (fun c hc => fr c (by simp [zbut]; omega))) hp0 (by rw [fr 8 rfl]; omega)) vl_X10_93 dX10_joined_150 o_145 rfl rfl (Nat.le_of_ble_eq_true rfl) ⟨(Nat.le_of_ble_eq_true rfl), (Nat.le_of_ble_eq_true rfl)⟩ rfl rfl (Nat.le_of_ble_eq_true rfl) (Nat.le_of_ble_eq_true rfl) (fun r9 J_150 hq9 => ?_)
                      obtain ⟨z_150, rfl, hz_150, rfl, hn_150⟩ := hq9
                      refine tz_aload_n (pc := 153) dX10_joined_153 rfl rfl ?_
                      refine tz_iload (pc := 154) dX10_joined_154 rfl ?_
                      refine tz_iload (pc := 156) dX10_joined_156 rfl ?_
                      refine tz_cV (pc := 158) (c_part hl n _ _ _ (by omega) (by omega) b m (C.of (fun c hc => fr c (by simp [zbut]; omega))) hq0 (by rw [fr 8 rfl]; omega)) vl_X10_93 dX10_joined_158 o_145 rfl rfl (Nat.le_of_ble_eq_true rfl) ⟨(Nat.le_of_ble_eq_true rfl), (Nat.le_of_ble_eq_true rfl)⟩ rfl rfl (Nat.le_of_ble_eq_true rfl) (Nat.le_of_ble_eq_true rfl) (fun r9 J_158 hq9 => ?_)
                      obtain ⟨z_158, rfl, hz_158, rfl, hn_158⟩ := hq9
                      refine tz_cV (pc := 161) (c_addPair hl n _ _ _ (by omega) (by omega) b m hP1 hn_150 hn_158) vl_X10_50 dX10_joined_161 o_145 rfl rfl (Nat.le_of_ble_eq_true rfl) ⟨(Nat.le_of_ble_eq_true rfl), (Nat.le_of_ble_eq_true rfl)⟩ rfl rfl (Nat.le_of_ble_eq_true rfl) (Nat.le_of_ble_eq_true rfl) (fun r9 J_161 hq9 => ?_)
                      obtain ⟨rfl, k1, k2, k3⟩ := hq9
                      refine tz_iinc (pc := 164) (z := i + 1) (L2 := [_, _, _, _, _, _]) dX10_joined_164 rfl (by omega) rfl ?_
                      refine tz_goto (pc := 167) (tgt := 127) dX10_joined_167 (by decide) ?_
                      exact ih127 (i + 1) _ (by omega) (by omega) (hw.of (Int.le_refl _) k2 (fun c hc => k3 c (by simp [zbut]; omega))) k1 ((k3.mono (fun c hc => by simp [zbut] at hc ⊢; omega)).tr fr)
                exact loop127 _ 0 _ (Nat.lt_succ_self _) (by have := C.ar hpt.1 hpt.2; omega) (UW.p9 (UW.p8 (UW.p7 (UW.rf hU) hx ax) (by first | exact hq9 | exact hp9)) hl9) (hP.of rfl rfl rfl) (zOf.up rfl (zOf.up rfl (zOf.up rfl zOf.rf)))
              · refine tz_iconst (pc := 122) dX10_joined_122 ?_
                exact tz_zret (pc := 123) (z := 0) dX10_joined_123 rfl (Or.inl rfl) (Nat.le_of_ble_eq_true rfl) (Nat.le_of_ble_eq_true rfl) ⟨Nat.le_refl _, Nat.le_add_right _ _⟩ ⟨_, rfl, (by decide), ⟨(UW.p9 (UW.p8 (UW.p7 (UW.rf hU) hx ax) (by first | exact hq9 | exact hp9)) hl9), hP.of rfl rfl rfl, by omega, (zOf.up rfl (zOf.up rfl (zOf.up rfl zOf.rf)))⟩⟩
            · refine tz_iconst (pc := 90) dX10_joined_90 ?_
              exact tz_zret (pc := 91) (z := 1) dX10_joined_91 rfl (Or.inr rfl) (Nat.le_of_ble_eq_true rfl) (Nat.le_of_ble_eq_true rfl) ⟨Nat.le_refl _, Nat.le_add_right _ _⟩ ⟨_, rfl, (by decide), ⟨(UW.p9 (UW.p8 (UW.p7 (UW.rf hU) hx ax) (by first | exact hq9 | exact hp9)) hl9), hP.of rfl rfl rfl, by omega, (zOf.up rfl (zOf.up rfl (zOf.up rfl zOf.rf)))⟩⟩
  · refine tz_iconst (pc := 5) dX10_joined_5 ?_
    exact tz_zret (pc := 6) (z := 1) dX10_joined_6 rfl (Or.inr rfl) (Nat.le_of_ble_eq_true rfl) (Nat.le_of_ble_eq_true rfl) ⟨Nat.le_refl _, Nat.le_add_right _ _⟩ ⟨_, rfl, (by decide), ⟨(UW.rf hU), hP.of rfl rfl rfl, by omega, zOf.rf⟩⟩

end
section
set_option maxHeartbeats 4000000 in
set_option maxRecDepth 100000 in
theorem c_listAll {l : Launch} {G : tb_G} (hl : l.stackTraces = false) (n : Nat) (J : zJ) (x : Int) (hr_x : -2147483648 ≤ x ∧ x < 2147483648) (b m : Int) (C : CT J m) (hU : UI J b m) (hx : nd b m x) (ax : J 146 x = J 145 10) : tz_Ok l G M_X10_listAll 3 0 0 [.ref 145, zi x] n J (zqi (fun z J' => UW J' J b m ∧ zOf (zbut [146, 147, 148, 149, 150, 153, 154]) J' J)) zN := by
  refine tz_Ok.of hl (by decide +kernel) rfl (tb_c1 rfl) (Nat.le_of_ble_eq_true rfl) ?_
  show tz_At l G M_X10_listAll (tb_rm 3 0 0) none (tb_ZM G 0 0 (zQ n 0 (zqi (fun z J' => UW J' J b m ∧ zOf (zbut [146, 147, 148, 149, 150, 153, 154]) J' J))) (zX n 0 zN)) 0 0 n J 0 [some (.ref 145), some (zi x), none, none, none, none, none] []
  have hb := C.told
  have hm := hb.2
  have hx2 := hx.rg hm
  have hL0 : lsI J J b m 0 := ⟨by decide, fun k a c => by omega⟩
  refine tz_iconst (pc := 0) dX10_listAll_0 ?_
  refine tz_istore_n (pc := 1) (L2 := [_, _, _, _, _, _, _]) dX10_listAll_1 rfl (by decide) rfl ?_
  refine tz_aload_n (pc := 2) dX10_listAll_2 rfl rfl ?_
  refine tz_fR (pc := 3) dX10_listAll_3 fl_X10_33 r_145_8 ?_
  refine tz_iconst (pc := 6) dX10_listAll_6 ?_
  refine tz_iload_n (pc := 7) dX10_listAll_7 rfl rfl ?_
  refine tz_aS (pc := 8) (z := 0) dX10_listAll_8 a_153 rfl (by decide) (by omega) ?_
  refine tz_aload_n (pc := 9) dX10_listAll_9 rfl rfl ?_
  refine tz_fR (pc := 10) dX10_listAll_10 fl_X10_36 r_145_9 ?_
  refine tz_iload_n (pc := 13) dX10_listAll_13 rfl rfl ?_
  refine tz_iconst (pc := 14) dX10_listAll_14 ?_
  refine tz_aS (pc := 15) (z := x) dX10_listAll_15 a_154 rfl (by omega) (by decide) ?_
  refine tz_iconst (pc := 16) dX10_listAll_16 ?_
  refine tz_istore_n (pc := 17) (L2 := [_, _, _, _, _, _, _]) dX10_listAll_17 rfl (by decide) rfl ?_
  have loop18 : ∀ (f9 : Nat) (g : Int) (k : Int) (d4 : Option Value) (d5 : Option Value) (d6 : Option Value) (J1 : zJ), ((800 - k).toNat) < f9 → (0 ≤ k ∧ k ≤ 800) → (UW J1 J b m) → (lsI J1 J b m g) → (zOf (zbut [146, 147, 148, 149, 150, 153, 154]) J1 J) → tz_At l G M_X10_listAll (tb_rm 3 0 0) none (tb_ZM G 0 0 (zQ n 0 (zqi (fun z J' => UW J' J b m ∧ zOf (zbut [146, 147, 148, 149, 150, 153, 154]) J' J))) (zX n 0 zN)) 0 0 n J1 18 [some (.ref 145), some (zi x), some (zi g), some (zi k), d4, d5, d6] [] := by
    intro f9
    induction f9 with
    | zero => intro g k d4 d5 d6 J1 hm9; exact absurd hm9 (Nat.not_lt_zero _)
    | succ f9 ih18 =>
      intro g k d4 d5 d6 J1 hm18 hk u1 l1 f1
      have lr := l1.1
      refine tz_iload_n (pc := 18) dX10_listAll_18 rfl rfl ?_
      refine tz_iload_n (pc := 19) dX10_listAll_19 rfl rfl ?_
      refine tz_icmp_ge (pc := 20) (tgt := 145) dX10_listAll_20 (by decide) (by omega) (by omega) (fun h_20 => ?_) (fun h_20 => ?_)
      · refine tz_iload_n (pc := 145) dX10_listAll_145 rfl rfl ?_
        exact tz_iret (pc := 146) (z := g) dX10_listAll_146 rfl (Nat.le_of_ble_eq_true rfl) (Nat.le_of_ble_eq_true rfl) ⟨Nat.le_refl _, Nat.le_add_right _ _⟩ ⟨_, rfl, (by omega), ⟨u1, f1⟩⟩
      · refine tz_iload_n (pc := 23) dX10_listAll_23 rfl rfl ?_
        refine tz_sipush (pc := 24) dX10_listAll_24 (by decide) ?_
        refine tz_icmp_ge (pc := 27) (tgt := 145) dX10_listAll_27 (by decide) (by omega) (by decide) (fun h_27 => ?_) (fun h_27 => ?_)
        · refine tz_iload_n (pc := 145) dX10_listAll_145 rfl rfl ?_
          exact tz_iret (pc := 146) (z := g) dX10_listAll_146 rfl (Nat.le_of_ble_eq_true rfl) (Nat.le_of_ble_eq_true rfl) ⟨Nat.le_refl _, Nat.le_add_right _ _⟩ ⟨_, rfl, (by omega), ⟨u1, f1⟩⟩
        · refine tz_aload_n (pc := 30) dX10_listAll_30 rfl rfl ?_
          refine tz_fR (pc := 31) dX10_listAll_31 fl_X10_18 r_145_3 ?_
          refine tz_aload_n (pc := 34) dX10_listAll_34 rfl rfl ?_
          refine tz_fR (pc := 35) dX10_listAll_35 fl_X10_33 r_145_8 ?_
          refine tz_iload_n (pc := 38) dX10_listAll_38 rfl rfl ?_
          refine tz_aL (pc := 39) (z := k) (v := (J1 153 k)) dX10_listAll_39 a_153 rfl (by omega) rfl (fun r_39 => ?_)
          have q0 := l1.2 k (by omega) (by omega)
          have q0r := q0.1.rg hm
          have q1 := (u1.at hm q0.1 q0.2).2.2.1
          refine tz_aL (pc := 40) (z := (J1 153 k)) (v := (J1 148 (J1 153 k))) dX10_listAll_40 a_148 rfl (by omega) rfl (fun r_40 => ?_)
          refine tz_istore (pc := 41) (L2 := [_, _, _, _, _, _, _]) dX10_listAll_41 (by decide) rfl ?_
          refine tz_iconst (pc := 43) dX10_listAll_43 ?_
          refine tz_istore (pc := 44) (L2 := [_, _, _, _, _, _, _]) dX10_listAll_44 (by decide) rfl ?_
          have loop46 : ∀ (f9 : Nat) (g2 : Int) (i : Int) (e6 : Option Value) (J2 : zJ), ((3 - i).toNat) < f9 → (0 ≤ i ∧ i ≤ 3) → (UW J2 J b m) → (lsI J2 J b m g2) → (zOf (zbut [146, 147, 148, 149, 150, 153, 154]) J2 J) → tz_At l G M_X10_listAll (tb_rm 3 0 0) none (tb_ZM G 0 0 (zQ n 0 (zqi (fun z J' => UW J' J b m ∧ zOf (zbut [146, 147, 148, 149, 150, 153, 154]) J' J))) (zX n 0 zN)) 0 0 n J2 46 [some (.ref 145), some (zi x), some (zi g2), some (zi k), some (zi (J1 148 (J1 153 k))), some (zi i), e6] [] := by
            intro f9
            induction f9 with
            | zero => intro g2 i e6 J2 hm9; exact absurd hm9 (Nat.not_lt_zero _)
            | succ f9 ih46 =>
              intro g2 i e6 J2 hm46 hi u2 l2 f2
              have l2r := l2.1
              have e8 := f2 8 rfl
              refine tz_iload (pc := 46) dX10_listAll_46 rfl ?_
              refine tz_iconst (pc := 48) dX10_listAll_48 ?_
              refine tz_icmp_eq (pc := 49) (tgt := 139) dX10_listAll_49 (by decide) (by omega) (by decide) (fun h_49 => ?_) (fun h_49 => ?_)
              · refine tz_iinc (pc := 139) (z := k + 1) (L2 := [_, _, _, _, _, _, _]) dX10_listAll_139 rfl (by omega) rfl ?_
                refine tz_goto (pc := 142) (tgt := 18) dX10_listAll_142 (by decide) ?_
                exact ih18 _ (k + 1) _ _ _ _ (by omega) (by omega) u2 l2 f2
              · have hn0 := q1.resolve_left (by omega)
                have hnr := hn0.rg hm
                have hnt := hn0.ix hm
                have ha8 := C.ar hnt.1 hnt.2
                refine tz_iload (pc := 52) dX10_listAll_52 rfl ?_
                refine tz_aload_n (pc := 54) dX10_listAll_54 rfl rfl ?_
                refine tz_fR (pc := 55) dX10_listAll_55 fl_X10_46 r_145_0 ?_
                refine tz_fR (pc := 58) dX10_listAll_58 fl_X10_90 r_6_2 ?_
                refine tz_aload_n (pc := 61) dX10_listAll_61 rfl rfl ?_
                refine tz_iload (pc := 62) dX10_listAll_62 rfl ?_
                refine tz_cV (pc := 64) (c_uTerm hl n _ _ (by omega) (by omega)) vl_X10_68 dX10_listAll_64 o_145 rfl rfl (Nat.le_of_ble_eq_true rfl) ⟨(Nat.le_of_ble_eq_true rfl), (Nat.le_of_ble_eq_true rfl)⟩ rfl rfl (Nat.le_of_ble_eq_true rfl) (Nat.le_of_ble_eq_true rfl) (fun r9 J_64 hq9 => ?_)
                obtain ⟨z_64, rfl, hz_64, rfl, rfl⟩ := hq9
                refine tz_aL (pc := 67) (z := (tm (J1 148 (J1 153 k)))) (v := (J 8 (tm (J1 148 (J1 153 k))))) dX10_listAll_67 a_8 rfl (by omega) (Eq.trans (congrFun (f2 8 rfl) (tm (J1 148 (J1 153 k)))) rfl) (fun r_67 => ?_)
                refine tz_icmp_ge (pc := 68) (tgt := 139) dX10_listAll_68 (by decide) (by omega) (by omega) (fun h_68 => ?_) (fun h_68 => ?_)
                · refine tz_iinc (pc := 139) (z := k + 1) (L2 := [_, _, _, _, _, _, _]) dX10_listAll_139 rfl (by omega) rfl ?_
                  refine tz_goto (pc := 142) (tgt := 18) dX10_listAll_142 (by decide) ?_
                  exact ih18 _ (k + 1) _ _ _ _ (by omega) (by omega) u2 l2 f2
                · refine tz_aload_n (pc := 71) dX10_listAll_71 rfl rfl ?_
                  refine tz_aload_n (pc := 72) dX10_listAll_72 rfl rfl ?_
                  refine tz_iload (pc := 73) dX10_listAll_73 rfl ?_
                  refine tz_iload (pc := 75) dX10_listAll_75 rfl ?_
                  refine tz_cV (pc := 77) (c_part hl n _ _ _ (by omega) (by omega) b m (C.of (fun c hc => f2 c (by simp [zbut]; omega))) hn0 (by rw [f2 8 rfl]; omega)) vl_X10_93 dX10_listAll_77 o_145 rfl rfl (Nat.le_of_ble_eq_true rfl) ⟨(Nat.le_of_ble_eq_true rfl), (Nat.le_of_ble_eq_true rfl)⟩ rfl rfl (Nat.le_of_ble_eq_true rfl) (Nat.le_of_ble_eq_true rfl) (fun r9 J_77 hq9 => ?_)
                  obtain ⟨zp, rfl, hz_77, rfl, hn9⟩ := hq9
                  refine tz_cV (pc := 80) (c_top hl n _ _ (by omega) b m hm hn9 u2.1) vl_X10_54 dX10_listAll_80 o_145 rfl rfl (Nat.le_of_ble_eq_true rfl) ⟨(Nat.le_of_ble_eq_true rfl), (Nat.le_of_ble_eq_true rfl)⟩ rfl rfl (Nat.le_of_ble_eq_true rfl) (Nat.le_of_ble_eq_true rfl) (fun r9 J3 hq9 => ?_)
                  obtain ⟨zt, rfl, hz_80, t1, t2, t3⟩ := hq9
                  have tr := t2.1.rg hm
                  have l3 := l2.of (t3 153 rfl) (fun x q => by have := t1.2.2 x; rw [u2.2.1] at this; exact this q)
                  have a3 := t2.2
                  rw [u2.2.1] at a3
                  refine tz_istore (pc := 83) (L2 := [_, _, _, _, _, _, _]) dX10_listAll_83 (by decide) rfl ?_
                  refine tz_aload_n (pc := 85) dX10_listAll_85 rfl rfl ?_
                  refine tz_fR (pc := 86) dX10_listAll_86 fl_X10_36 r_145_9 ?_
                  refine tz_iload (pc := 89) dX10_listAll_89 rfl ?_
                  refine tz_aL (pc := 91) (z := zt) (v := (J3 154 zt)) dX10_listAll_91 a_154 rfl (by omega) rfl (fun r_91 => ?_)
                  refine tz_iconst (pc := 92) dX10_listAll_92 ?_
                  refine tz_icmp_ne (pc := 93) (tgt := 122) dX10_listAll_93 (by decide) (by omega) (by decide) (fun h_93 => ?_) (fun h_93 => ?_)
                  · refine tz_aload_n (pc := 122) dX10_listAll_122 rfl rfl ?_
                    refine tz_fR (pc := 123) dX10_listAll_123 fl_X10_36 r_145_9 ?_
                    refine tz_iload (pc := 126) dX10_listAll_126 rfl ?_
                    refine tz_dup2 (pc := 128) dX10_listAll_128 rfl rfl ?_
                    refine tz_aL (pc := 129) (z := zt) (v := (J3 154 zt)) dX10_listAll_129 a_154 rfl (by omega) rfl (fun r_129 => ?_)
                    refine tz_iconst (pc := 130) dX10_listAll_130 ?_
                    refine tz_iadd (pc := 131) (v := (J3 154 zt) + 1) dX10_listAll_131 rfl ?_
                    refine tz_tw ?_
                    have rw_132 := zw_rg ((J3 154 zt) + 1)
                    refine tz_aS (pc := 132) (z := zt) dX10_listAll_132 a_154 rfl (by omega) (zw_rg _) ?_
                    refine tz_iinc (pc := 133) (z := i + 1) (L2 := [_, _, _, _, _, _, _]) dX10_listAll_133 rfl (by omega) rfl ?_
                    refine tz_goto (pc := 136) (tgt := 46) dX10_listAll_136 (by decide) ?_
                    exact ih46 (g2) (i + 1) _ _ (by omega) (by omega) ((t1.tr u2).of (Int.le_refl _) rfl (fun c hc => by rcases (show c = 146 ∨ c = 147 ∨ c = 148 ∨ c = 149 ∨ c = 150 by omega) with rfl | rfl | rfl | rfl | rfl <;> rfl)) (lsI.of l3 rfl (fun _ q => q)) (zOf.up rfl ((t3.mono (fun c hc => by simp [zbut] at hc ⊢; omega)).tr f2))
                  · refine tz_iload_n (pc := 96) dX10_listAll_96 rfl rfl ?_
                    refine tz_sipush (pc := 97) dX10_listAll_97 (by decide) ?_
                    refine tz_icmp_ge (pc := 100) (tgt := 122) dX10_listAll_100 (by decide) (by omega) (by decide) (fun h_100 => ?_) (fun h_100 => ?_)
                    · refine tz_aload_n (pc := 122) dX10_listAll_122 rfl rfl ?_
                      refine tz_fR (pc := 123) dX10_listAll_123 fl_X10_36 r_145_9 ?_
                      refine tz_iload (pc := 126) dX10_listAll_126 rfl ?_
                      refine tz_dup2 (pc := 128) dX10_listAll_128 rfl rfl ?_
                      refine tz_aL (pc := 129) (z := zt) (v := (J3 154 zt)) dX10_listAll_129 a_154 rfl (by omega) rfl (fun r_129 => ?_)
                      refine tz_iconst (pc := 130) dX10_listAll_130 ?_
                      refine tz_iadd (pc := 131) (v := (J3 154 zt) + 1) dX10_listAll_131 rfl ?_
                      refine tz_tw ?_
                      have rw_132 := zw_rg ((J3 154 zt) + 1)
                      refine tz_aS (pc := 132) (z := zt) dX10_listAll_132 a_154 rfl (by omega) (zw_rg _) ?_
                      refine tz_iinc (pc := 133) (z := i + 1) (L2 := [_, _, _, _, _, _, _]) dX10_listAll_133 rfl (by omega) rfl ?_
                      refine tz_goto (pc := 136) (tgt := 46) dX10_listAll_136 (by decide) ?_
                      exact ih46 (g2) (i + 1) _ _ (by omega) (by omega) ((t1.tr u2).of (Int.le_refl _) rfl (fun c hc => by rcases (show c = 146 ∨ c = 147 ∨ c = 148 ∨ c = 149 ∨ c = 150 by omega) with rfl | rfl | rfl | rfl | rfl <;> rfl)) (lsI.of l3 rfl (fun _ q => q)) (zOf.up rfl ((t3.mono (fun c hc => by simp [zbut] at hc ⊢; omega)).tr f2))
                    · refine tz_aload_n (pc := 103) dX10_listAll_103 rfl rfl ?_
                      refine tz_fR (pc := 104) dX10_listAll_104 fl_X10_36 r_145_9 ?_
                      refine tz_iload (pc := 107) dX10_listAll_107 rfl ?_
                      refine tz_iconst (pc := 109) dX10_listAll_109 ?_
                      refine tz_aS (pc := 110) (z := zt) dX10_listAll_110 a_154 rfl (by omega) (by decide) ?_
                      refine tz_aload_n (pc := 111) dX10_listAll_111 rfl rfl ?_
                      refine tz_fR (pc := 112) dX10_listAll_112 fl_X10_33 r_145_8 ?_
                      refine tz_iload_n (pc := 115) dX10_listAll_115 rfl rfl ?_
                      refine tz_iload (pc := 116) dX10_listAll_116 rfl ?_
                      refine tz_aS (pc := 118) (z := g2) dX10_listAll_118 a_153 rfl (by omega) (by omega) ?_
                      refine tz_iinc (pc := 119) (z := g2 + 1) (L2 := [_, _, _, _, _, _, _]) dX10_listAll_119 rfl (by omega) rfl ?_
                      refine tz_aload_n (pc := 122) dX10_listAll_122 rfl rfl ?_
                      refine tz_fR (pc := 123) dX10_listAll_123 fl_X10_36 r_145_9 ?_
                      refine tz_iload (pc := 126) dX10_listAll_126 rfl ?_
                      refine tz_dup2 (pc := 128) dX10_listAll_128 rfl rfl ?_
                      refine tz_aL (pc := 129) (z := zt) (v := 0) dX10_listAll_129 a_154 rfl (by omega) (by simp [zup]) (fun _ => ?_)
                      refine tz_iconst (pc := 130) dX10_listAll_130 ?_
                      refine tz_iadd (pc := 131) (v := 1) dX10_listAll_131 (by decide) ?_
                      refine tz_aS (pc := 132) (z := zt) dX10_listAll_132 a_154 rfl (by omega) (by decide) ?_
                      refine tz_iinc (pc := 133) (z := i + 1) (L2 := [_, _, _, _, _, _, _]) dX10_listAll_133 rfl (by omega) rfl ?_
                      refine tz_goto (pc := 136) (tgt := 46) dX10_listAll_136 (by decide) ?_
                      exact ih46 (g2 + 1) (i + 1) _ _ (by omega) (by omega) ((t1.tr u2).of (Int.le_refl _) rfl (fun c hc => by rcases (show c = 146 ∨ c = 147 ∨ c = 148 ∨ c = 149 ∨ c = 150 by omega) with rfl | rfl | rfl | rfl | rfl <;> rfl)) (lsI.of (lsI.push (lsI.of l3 rfl (fun _ q => q)) (by omega) t2.1 a3) rfl (fun _ q => q)) (zOf.up rfl (zOf.up rfl (zOf.up rfl ((t3.mono (fun c hc => by simp [zbut] at hc ⊢; omega)).tr f2))))
          exact loop46 _ _ 0 _ _ (Nat.lt_succ_self _) (by omega) u1 l1 f1
  exact loop18 _ 1 0 _ _ _ _ (Nat.lt_succ_self _) (by omega) ((UW.rf hU).of (Int.le_refl _) rfl (fun c hc => by rcases (show c = 146 ∨ c = 147 ∨ c = 148 ∨ c = 149 ∨ c = 150 by omega) with rfl | rfl | rfl | rfl | rfl <;> rfl)) (lsI.of (lsI.push hL0 (by decide) hx ax) rfl (fun _ q => q)) (zOf.up rfl (zOf.up rfl zOf.rf))

set_option maxHeartbeats 4000000 in
set_option maxRecDepth 100000 in
theorem c_taken {l : Launch} {G : tb_G} (hl : l.stackTraces = false) (n : Nat) (J : zJ) (x : Int) (hr_x : -2147483648 ≤ x ∧ x < 2147483648) (b m : Int) (C : CT J m) (hU : UI J b m) (hx : nd b m x) (ax : J 146 x = J 145 10) : tz_Ok l G M_X10_takenAway 3 0 0 [.ref 145, zi x] n J (zqi (fun z J' => UW J' J b m ∧ zOf (zbut [146, 147, 148, 149, 150, 153, 154]) J' J)) zN := by
  refine tz_Ok.of hl (by decide +kernel) rfl (tb_c1 rfl) (Nat.le_of_ble_eq_true rfl) ?_
  show tz_At l G M_X10_takenAway (tb_rm 3 0 0) none (tb_ZM G 0 0 (zQ n 0 (zqi (fun z J' => UW J' J b m ∧ zOf (zbut [146, 147, 148, 149, 150, 153, 154]) J' J))) (zX n 0 zN)) 0 0 n J 0 [some (.ref 145), some (zi x), none, none, none, none, none] []
  have hb := C.told
  have hm := hb.2
  have hx2 := hx.rg hm
  have hL0 : lsI J J b m 0 := ⟨by decide, fun k a c => by omega⟩
  refine tz_iconst (pc := 0) dX10_takenAway_0 ?_
  refine tz_istore_n (pc := 1) (L2 := [_, _, _, _, _, _, _]) dX10_takenAway_1 rfl (by decide) rfl ?_
  refine tz_aload_n (pc := 2) dX10_takenAway_2 rfl rfl ?_
  refine tz_fR (pc := 3) dX10_takenAway_3 fl_X10_36 r_145_9 ?_
  refine tz_iload_n (pc := 6) dX10_takenAway_6 rfl rfl ?_
  refine tz_aL (pc := 7) (z := x) (v := (J 154 x)) dX10_takenAway_7 a_154 rfl (by omega) rfl (fun r_7 => ?_)
  refine tz_if_ne (pc := 8) (tgt := 21) dX10_takenAway_8 (by decide) (by omega) (fun h_8 => ?_) (fun h_8 => ?_)
  · refine tz_iconst (pc := 21) dX10_takenAway_21 ?_
    refine tz_istore_n (pc := 22) (L2 := [_, _, _, _, _, _, _]) dX10_takenAway_22 rfl (by decide) rfl ?_
    have loop23 : ∀ (f9 : Nat) (g : Int) (k : Int) (d4 : Option Value) (d5 : Option Value) (d6 : Option Value) (J1 : zJ), ((800 - k).toNat) < f9 → (0 ≤ k ∧ k ≤ 800) → (UW J1 J b m) → (lsI J1 J b m g) → (zOf (zbut [146, 147, 148, 149, 150, 153, 154]) J1 J) → tz_At l G M_X10_takenAway (tb_rm 3 0 0) none (tb_ZM G 0 0 (zQ n 0 (zqi (fun z J' => UW J' J b m ∧ zOf (zbut [146, 147, 148, 149, 150, 153, 154]) J' J))) (zX n 0 zN)) 0 0 n J1 23 [some (.ref 145), some (zi x), some (zi g), some (zi k), d4, d5, d6] [] := by
      intro f9
      induction f9 with
      | zero => intro g k d4 d5 d6 J1 hm9; exact absurd hm9 (Nat.not_lt_zero _)
      | succ f9 ih23 =>
        intro g k d4 d5 d6 J1 hm23 hk u1 l1 f1
        have lr := l1.1
        refine tz_iload_n (pc := 23) dX10_takenAway_23 rfl rfl ?_
        refine tz_iload_n (pc := 24) dX10_takenAway_24 rfl rfl ?_
        refine tz_icmp_ge (pc := 25) (tgt := 141) dX10_takenAway_25 (by decide) (by omega) (by omega) (fun h_25 => ?_) (fun h_25 => ?_)
        · refine tz_iload_n (pc := 141) dX10_takenAway_141 rfl rfl ?_
          exact tz_iret (pc := 142) (z := g) dX10_takenAway_142 rfl (Nat.le_of_ble_eq_true rfl) (Nat.le_of_ble_eq_true rfl) ⟨Nat.le_refl _, Nat.le_add_right _ _⟩ ⟨_, rfl, (by omega), ⟨u1, f1⟩⟩
        · refine tz_iload_n (pc := 28) dX10_takenAway_28 rfl rfl ?_
          refine tz_sipush (pc := 29) dX10_takenAway_29 (by decide) ?_
          refine tz_icmp_ge (pc := 32) (tgt := 141) dX10_takenAway_32 (by decide) (by omega) (by decide) (fun h_32 => ?_) (fun h_32 => ?_)
          · refine tz_iload_n (pc := 141) dX10_takenAway_141 rfl rfl ?_
            exact tz_iret (pc := 142) (z := g) dX10_takenAway_142 rfl (Nat.le_of_ble_eq_true rfl) (Nat.le_of_ble_eq_true rfl) ⟨Nat.le_refl _, Nat.le_add_right _ _⟩ ⟨_, rfl, (by omega), ⟨u1, f1⟩⟩
          · refine tz_aload_n (pc := 35) dX10_takenAway_35 rfl rfl ?_
            refine tz_fR (pc := 36) dX10_takenAway_36 fl_X10_18 r_145_3 ?_
            refine tz_aload_n (pc := 39) dX10_takenAway_39 rfl rfl ?_
            refine tz_fR (pc := 40) dX10_takenAway_40 fl_X10_33 r_145_8 ?_
            refine tz_iload_n (pc := 43) dX10_takenAway_43 rfl rfl ?_
            refine tz_aL (pc := 44) (z := k) (v := (J1 153 k)) dX10_takenAway_44 a_153 rfl (by omega) rfl (fun r_44 => ?_)
            have q0 := l1.2 k (by omega) (by omega)
            have q0r := q0.1.rg hm
            have q1 := (u1.at hm q0.1 q0.2).2.2.1
            refine tz_aL (pc := 45) (z := (J1 153 k)) (v := (J1 148 (J1 153 k))) dX10_takenAway_45 a_148 rfl (by omega) rfl (fun r_45 => ?_)
            refine tz_istore (pc := 46) (L2 := [_, _, _, _, _, _, _]) dX10_takenAway_46 (by decide) rfl ?_
            refine tz_iconst (pc := 48) dX10_takenAway_48 ?_
            refine tz_istore (pc := 49) (L2 := [_, _, _, _, _, _, _]) dX10_takenAway_49 (by decide) rfl ?_
            have loop51 : ∀ (f9 : Nat) (g2 : Int) (i : Int) (e6 : Option Value) (J2 : zJ), ((3 - i).toNat) < f9 → (0 ≤ i ∧ i ≤ 3) → (UW J2 J b m) → (lsI J2 J b m g2) → (zOf (zbut [146, 147, 148, 149, 150, 153, 154]) J2 J) → tz_At l G M_X10_takenAway (tb_rm 3 0 0) none (tb_ZM G 0 0 (zQ n 0 (zqi (fun z J' => UW J' J b m ∧ zOf (zbut [146, 147, 148, 149, 150, 153, 154]) J' J))) (zX n 0 zN)) 0 0 n J2 51 [some (.ref 145), some (zi x), some (zi g2), some (zi k), some (zi (J1 148 (J1 153 k))), some (zi i), e6] [] := by
              intro f9
              induction f9 with
              | zero => intro g2 i e6 J2 hm9; exact absurd hm9 (Nat.not_lt_zero _)
              | succ f9 ih51 =>
                intro g2 i e6 J2 hm51 hi u2 l2 f2
                have l2r := l2.1
                have e8 := f2 8 rfl
                refine tz_iload (pc := 51) dX10_takenAway_51 rfl ?_
                refine tz_iconst (pc := 53) dX10_takenAway_53 ?_
                refine tz_icmp_eq (pc := 54) (tgt := 135) dX10_takenAway_54 (by decide) (by omega) (by decide) (fun h_54 => ?_) (fun h_54 => ?_)
                · refine tz_iinc (pc := 135) (z := k + 1) (L2 := [_, _, _, _, _, _, _]) dX10_takenAway_135 rfl (by omega) rfl ?_
                  refine tz_goto (pc := 138) (tgt := 23) dX10_takenAway_138 (by decide) ?_
                  exact ih23 _ (k + 1) _ _ _ _ (by omega) (by omega) u2 l2 f2
                · have hn0 := q1.resolve_left (by omega)
                  have hnr := hn0.rg hm
                  have hnt := hn0.ix hm
                  have ha8 := C.ar hnt.1 hnt.2
                  refine tz_iload (pc := 57) dX10_takenAway_57 rfl ?_
                  refine tz_aload_n (pc := 59) dX10_takenAway_59 rfl rfl ?_
                  refine tz_fR (pc := 60) dX10_takenAway_60 fl_X10_46 r_145_0 ?_
                  refine tz_fR (pc := 63) dX10_takenAway_63 fl_X10_90 r_6_2 ?_
                  refine tz_aload_n (pc := 66) dX10_takenAway_66 rfl rfl ?_
                  refine tz_iload (pc := 67) dX10_takenAway_67 rfl ?_
                  refine tz_cV (pc := 69) (c_uTerm hl n _ _ (by omega) (by omega)) vl_X10_68 dX10_takenAway_69 o_145 rfl rfl (Nat.le_of_ble_eq_true rfl) ⟨(Nat.le_of_ble_eq_true rfl), (Nat.le_of_ble_eq_true rfl)⟩ rfl rfl (Nat.le_of_ble_eq_true rfl) (Nat.le_of_ble_eq_true rfl) (fun r9 J_69 hq9 => ?_)
                  obtain ⟨z_69, rfl, hz_69, rfl, rfl⟩ := hq9
                  refine tz_aL (pc := 72) (z := (tm (J1 148 (J1 153 k)))) (v := (J 8 (tm (J1 148 (J1 153 k))))) dX10_takenAway_72 a_8 rfl (by omega) (Eq.trans (congrFun (f2 8 rfl) (tm (J1 148 (J1 153 k)))) rfl) (fun r_72 => ?_)
                  refine tz_icmp_ge (pc := 73) (tgt := 135) dX10_takenAway_73 (by decide) (by omega) (by omega) (fun h_73 => ?_) (fun h_73 => ?_)
                  · refine tz_iinc (pc := 135) (z := k + 1) (L2 := [_, _, _, _, _, _, _]) dX10_takenAway_135 rfl (by omega) rfl ?_
                    refine tz_goto (pc := 138) (tgt := 23) dX10_takenAway_138 (by decide) ?_
                    exact ih23 _ (k + 1) _ _ _ _ (by omega) (by omega) u2 l2 f2
                  · refine tz_aload_n (pc := 76) dX10_takenAway_76 rfl rfl ?_
                    refine tz_aload_n (pc := 77) dX10_takenAway_77 rfl rfl ?_
                    refine tz_iload (pc := 78) dX10_takenAway_78 rfl ?_
                    refine tz_iload (pc := 80) dX10_takenAway_80 rfl ?_
                    refine tz_cV (pc := 82) (c_part hl n _ _ _ (by omega) (by omega) b m (C.of (fun c hc => f2 c (by simp [zbut]; omega))) hn0 (by rw [f2 8 rfl]; omega)) vl_X10_93 dX10_takenAway_82 o_145 rfl rfl (Nat.le_of_ble_eq_true rfl) ⟨(Nat.le_of_ble_eq_true rfl), (Nat.le_of_ble_eq_true rfl)⟩ rfl rfl (Nat.le_of_ble_eq_true rfl) (Nat.le_of_ble_eq_true rfl) (fun r9 J_82 hq9 => ?_)
                    obtain ⟨zp, rfl, hz_82, rfl, hn9⟩ := hq9
                    refine tz_cV (pc := 85) (c_top hl n _ _ (by omega) b m hm hn9 u2.1) vl_X10_54 dX10_takenAway_85 o_145 rfl rfl (Nat.le_of_ble_eq_true rfl) ⟨(Nat.le_of_ble_eq_true rfl), (Nat.le_of_ble_eq_true rfl)⟩ rfl rfl (Nat.le_of_ble_eq_true rfl) (Nat.le_of_ble_eq_true rfl) (fun r9 J3 hq9 => ?_)
                    obtain ⟨zt, rfl, hz_85, t1, t2, t3⟩ := hq9
                    have tr := t2.1.rg hm
                    have l3 := l2.of (t3 153 rfl) (fun x q => by have := t1.2.2 x; rw [u2.2.1] at this; exact this q)
                    have a3 := t2.2
                    rw [u2.2.1] at a3
                    refine tz_istore (pc := 88) (L2 := [_, _, _, _, _, _, _]) dX10_takenAway_88 (by decide) rfl ?_
                    refine tz_aload_n (pc := 90) dX10_takenAway_90 rfl rfl ?_
                    refine tz_fR (pc := 91) dX10_takenAway_91 fl_X10_36 r_145_9 ?_
                    refine tz_iload (pc := 94) dX10_takenAway_94 rfl ?_
                    refine tz_dup2 (pc := 96) dX10_takenAway_96 rfl rfl ?_
                    refine tz_aL (pc := 97) (z := zt) (v := (J3 154 zt)) dX10_takenAway_97 a_154 rfl (by omega) rfl (fun r_97 => ?_)
                    refine tz_iconst (pc := 98) dX10_takenAway_98 ?_
                    refine tz_isub (pc := 99) (v := (J3 154 zt) - 1) dX10_takenAway_99 rfl ?_
                    refine tz_tw ?_
                    have rw_100 := zw_rg ((J3 154 zt) - 1)
                    refine tz_aS (pc := 100) (z := zt) dX10_takenAway_100 a_154 rfl (by omega) (zw_rg _) ?_
                    refine tz_aload_n (pc := 101) dX10_takenAway_101 rfl rfl ?_
                    refine tz_fR (pc := 102) dX10_takenAway_102 fl_X10_36 r_145_9 ?_
                    refine tz_iload (pc := 105) dX10_takenAway_105 rfl ?_
                    refine tz_aL (pc := 107) (z := zt) (v := (zw ((J3 154 zt) - 1))) dX10_takenAway_107 a_154 rfl (by omega) (by simp [zup]) (fun r_107 => ?_)
                    refine tz_if_ne (pc := 108) (tgt := 129) dX10_takenAway_108 (by decide) (zw_rg _) (fun h_108 => ?_) (fun h_108 => ?_)
                    · refine tz_iinc (pc := 129) (z := i + 1) (L2 := [_, _, _, _, _, _, _]) dX10_takenAway_129 rfl (by omega) rfl ?_
                      refine tz_goto (pc := 132) (tgt := 51) dX10_takenAway_132 (by decide) ?_
                      exact ih51 (g2) (i + 1) _ _ (by omega) (by omega) ((t1.tr u2).of (Int.le_refl _) rfl (fun c hc => by rcases (show c = 146 ∨ c = 147 ∨ c = 148 ∨ c = 149 ∨ c = 150 by omega) with rfl | rfl | rfl | rfl | rfl <;> rfl)) (lsI.of l3 rfl (fun _ q => q)) (zOf.up rfl ((t3.mono (fun c hc => by simp [zbut] at hc ⊢; omega)).tr f2))
                    · refine tz_iload_n (pc := 111) dX10_takenAway_111 rfl rfl ?_
                      refine tz_sipush (pc := 112) dX10_takenAway_112 (by decide) ?_
                      refine tz_icmp_ge (pc := 115) (tgt := 129) dX10_takenAway_115 (by decide) (by omega) (by decide) (fun h_115 => ?_) (fun h_115 => ?_)
                      · refine tz_iinc (pc := 129) (z := i + 1) (L2 := [_, _, _, _, _, _, _]) dX10_takenAway_129 rfl (by omega) rfl ?_
                        refine tz_goto (pc := 132) (tgt := 51) dX10_takenAway_132 (by decide) ?_
                        exact ih51 (g2) (i + 1) _ _ (by omega) (by omega) ((t1.tr u2).of (Int.le_refl _) rfl (fun c hc => by rcases (show c = 146 ∨ c = 147 ∨ c = 148 ∨ c = 149 ∨ c = 150 by omega) with rfl | rfl | rfl | rfl | rfl <;> rfl)) (lsI.of l3 rfl (fun _ q => q)) (zOf.up rfl ((t3.mono (fun c hc => by simp [zbut] at hc ⊢; omega)).tr f2))
                      · refine tz_aload_n (pc := 118) dX10_takenAway_118 rfl rfl ?_
                        refine tz_fR (pc := 119) dX10_takenAway_119 fl_X10_33 r_145_8 ?_
                        refine tz_iload_n (pc := 122) dX10_takenAway_122 rfl rfl ?_
                        refine tz_iload (pc := 123) dX10_takenAway_123 rfl ?_
                        refine tz_aS (pc := 125) (z := g2) dX10_takenAway_125 a_153 rfl (by omega) (by omega) ?_
                        refine tz_iinc (pc := 126) (z := g2 + 1) (L2 := [_, _, _, _, _, _, _]) dX10_takenAway_126 rfl (by omega) rfl ?_
                        refine tz_iinc (pc := 129) (z := i + 1) (L2 := [_, _, _, _, _, _, _]) dX10_takenAway_129 rfl (by omega) rfl ?_
                        refine tz_goto (pc := 132) (tgt := 51) dX10_takenAway_132 (by decide) ?_
                        exact ih51 (g2 + 1) (i + 1) _ _ (by omega) (by omega) ((t1.tr u2).of (Int.le_refl _) rfl (fun c hc => by rcases (show c = 146 ∨ c = 147 ∨ c = 148 ∨ c = 149 ∨ c = 150 by omega) with rfl | rfl | rfl | rfl | rfl <;> rfl)) (lsI.push (lsI.of l3 rfl (fun _ q => q)) (by omega) t2.1 a3) (zOf.up rfl (zOf.up rfl ((t3.mono (fun c hc => by simp [zbut] at hc ⊢; omega)).tr f2)))
            exact loop51 _ _ 0 _ _ (Nat.lt_succ_self _) (by omega) u1 l1 f1
    exact loop23 _ 0 0 _ _ _ _ (Nat.lt_succ_self _) (by omega) (UW.rf hU) hL0 zOf.rf
  · refine tz_aload_n (pc := 11) dX10_takenAway_11 rfl rfl ?_
    refine tz_fR (pc := 12) dX10_takenAway_12 fl_X10_33 r_145_8 ?_
    refine tz_iload_n (pc := 15) dX10_takenAway_15 rfl rfl ?_
    refine tz_iload_n (pc := 16) dX10_takenAway_16 rfl rfl ?_
    refine tz_aS (pc := 17) (z := 0) dX10_takenAway_17 a_153 rfl (by decide) (by omega) ?_
    refine tz_iinc (pc := 18) (z := 1) (L2 := [_, _, _, _, _, _, _]) dX10_takenAway_18 rfl (by decide) rfl ?_
    refine tz_iconst (pc := 21) dX10_takenAway_21 ?_
    refine tz_istore_n (pc := 22) (L2 := [_, _, _, _, _, _, _]) dX10_takenAway_22 rfl (by decide) rfl ?_
    have loop23 : ∀ (f9 : Nat) (g : Int) (k : Int) (d4 : Option Value) (d5 : Option Value) (d6 : Option Value) (J1 : zJ), ((800 - k).toNat) < f9 → (0 ≤ k ∧ k ≤ 800) → (UW J1 J b m) → (lsI J1 J b m g) → (zOf (zbut [146, 147, 148, 149, 150, 153, 154]) J1 J) → tz_At l G M_X10_takenAway (tb_rm 3 0 0) none (tb_ZM G 0 0 (zQ n 0 (zqi (fun z J' => UW J' J b m ∧ zOf (zbut [146, 147, 148, 149, 150, 153, 154]) J' J))) (zX n 0 zN)) 0 0 n J1 23 [some (.ref 145), some (zi x), some (zi g), some (zi k), d4, d5, d6] [] := by
      intro f9
      induction f9 with
      | zero => intro g k d4 d5 d6 J1 hm9; exact absurd hm9 (Nat.not_lt_zero _)
      | succ f9 ih23 =>
        intro g k d4 d5 d6 J1 hm23 hk u1 l1 f1
        have lr := l1.1
        refine tz_iload_n (pc := 23) dX10_takenAway_23 rfl rfl ?_
        refine tz_iload_n (pc := 24) dX10_takenAway_24 rfl rfl ?_
        refine tz_icmp_ge (pc := 25) (tgt := 141) dX10_takenAway_25 (by decide) (by omega) (by omega) (fun h_25 => ?_) (fun h_25 => ?_)
        · refine tz_iload_n (pc := 141) dX10_takenAway_141 rfl rfl ?_
          exact tz_iret (pc := 142) (z := g) dX10_takenAway_142 rfl (Nat.le_of_ble_eq_true rfl) (Nat.le_of_ble_eq_true rfl) ⟨Nat.le_refl _, Nat.le_add_right _ _⟩ ⟨_, rfl, (by omega), ⟨u1, f1⟩⟩
        · refine tz_iload_n (pc := 28) dX10_takenAway_28 rfl rfl ?_
          refine tz_sipush (pc := 29) dX10_takenAway_29 (by decide) ?_
          refine tz_icmp_ge (pc := 32) (tgt := 141) dX10_takenAway_32 (by decide) (by omega) (by decide) (fun h_32 => ?_) (fun h_32 => ?_)
          · refine tz_iload_n (pc := 141) dX10_takenAway_141 rfl rfl ?_
            exact tz_iret (pc := 142) (z := g) dX10_takenAway_142 rfl (Nat.le_of_ble_eq_true rfl) (Nat.le_of_ble_eq_true rfl) ⟨Nat.le_refl _, Nat.le_add_right _ _⟩ ⟨_, rfl, (by omega), ⟨u1, f1⟩⟩
          · refine tz_aload_n (pc := 35) dX10_takenAway_35 rfl rfl ?_
            refine tz_fR (pc := 36) dX10_takenAway_36 fl_X10_18 r_145_3 ?_
            refine tz_aload_n (pc := 39) dX10_takenAway_39 rfl rfl ?_
            refine tz_fR (pc := 40) dX10_takenAway_40 fl_X10_33 r_145_8 ?_
            refine tz_iload_n (pc := 43) dX10_takenAway_43 rfl rfl ?_
            refine tz_aL (pc := 44) (z := k) (v := (J1 153 k)) dX10_takenAway_44 a_153 rfl (by omega) rfl (fun r_44 => ?_)
            have q0 := l1.2 k (by omega) (by omega)
            have q0r := q0.1.rg hm
            have q1 := (u1.at hm q0.1 q0.2).2.2.1
            refine tz_aL (pc := 45) (z := (J1 153 k)) (v := (J1 148 (J1 153 k))) dX10_takenAway_45 a_148 rfl (by omega) rfl (fun r_45 => ?_)
            refine tz_istore (pc := 46) (L2 := [_, _, _, _, _, _, _]) dX10_takenAway_46 (by decide) rfl ?_
            refine tz_iconst (pc := 48) dX10_takenAway_48 ?_
            refine tz_istore (pc := 49) (L2 := [_, _, _, _, _, _, _]) dX10_takenAway_49 (by decide) rfl ?_
            have loop51 : ∀ (f9 : Nat) (g2 : Int) (i : Int) (e6 : Option Value) (J2 : zJ), ((3 - i).toNat) < f9 → (0 ≤ i ∧ i ≤ 3) → (UW J2 J b m) → (lsI J2 J b m g2) → (zOf (zbut [146, 147, 148, 149, 150, 153, 154]) J2 J) → tz_At l G M_X10_takenAway (tb_rm 3 0 0) none (tb_ZM G 0 0 (zQ n 0 (zqi (fun z J' => UW J' J b m ∧ zOf (zbut [146, 147, 148, 149, 150, 153, 154]) J' J))) (zX n 0 zN)) 0 0 n J2 51 [some (.ref 145), some (zi x), some (zi g2), some (zi k), some (zi (J1 148 (J1 153 k))), some (zi i), e6] [] := by
              intro f9
              induction f9 with
              | zero => intro g2 i e6 J2 hm9; exact absurd hm9 (Nat.not_lt_zero _)
              | succ f9 ih51 =>
                intro g2 i e6 J2 hm51 hi u2 l2 f2
                have l2r := l2.1
                have e8 := f2 8 rfl
                refine tz_iload (pc := 51) dX10_takenAway_51 rfl ?_
                refine tz_iconst (pc := 53) dX10_takenAway_53 ?_
                refine tz_icmp_eq (pc := 54) (tgt := 135) dX10_takenAway_54 (by decide) (by omega) (by decide) (fun h_54 => ?_) (fun h_54 => ?_)
                · refine tz_iinc (pc := 135) (z := k + 1) (L2 := [_, _, _, _, _, _, _]) dX10_takenAway_135 rfl (by omega) rfl ?_
                  refine tz_goto (pc := 138) (tgt := 23) dX10_takenAway_138 (by decide) ?_
                  exact ih23 _ (k + 1) _ _ _ _ (by omega) (by omega) u2 l2 f2
                · have hn0 := q1.resolve_left (by omega)
                  have hnr := hn0.rg hm
                  have hnt := hn0.ix hm
                  have ha8 := C.ar hnt.1 hnt.2
                  refine tz_iload (pc := 57) dX10_takenAway_57 rfl ?_
                  refine tz_aload_n (pc := 59) dX10_takenAway_59 rfl rfl ?_
                  refine tz_fR (pc := 60) dX10_takenAway_60 fl_X10_46 r_145_0 ?_
                  refine tz_fR (pc := 63) dX10_takenAway_63 fl_X10_90 r_6_2 ?_
                  refine tz_aload_n (pc := 66) dX10_takenAway_66 rfl rfl ?_
                  refine tz_iload (pc := 67) dX10_takenAway_67 rfl ?_
                  refine tz_cV (pc := 69) (c_uTerm hl n _ _ (by omega) (by omega)) vl_X10_68 dX10_takenAway_69 o_145 rfl rfl (Nat.le_of_ble_eq_true rfl) ⟨(Nat.le_of_ble_eq_true rfl), (Nat.le_of_ble_eq_true rfl)⟩ rfl rfl (Nat.le_of_ble_eq_true rfl) (Nat.le_of_ble_eq_true rfl) (fun r9 J_69 hq9 => ?_)
                  obtain ⟨z_69, rfl, hz_69, rfl, rfl⟩ := hq9
                  refine tz_aL (pc := 72) (z := (tm (J1 148 (J1 153 k)))) (v := (J 8 (tm (J1 148 (J1 153 k))))) dX10_takenAway_72 a_8 rfl (by omega) (Eq.trans (congrFun (f2 8 rfl) (tm (J1 148 (J1 153 k)))) rfl) (fun r_72 => ?_)
                  refine tz_icmp_ge (pc := 73) (tgt := 135) dX10_takenAway_73 (by decide) (by omega) (by omega) (fun h_73 => ?_) (fun h_73 => ?_)
                  · refine tz_iinc (pc := 135) (z := k + 1) (L2 := [_, _, _, _, _, _, _]) dX10_takenAway_135 rfl (by omega) rfl ?_
                    refine tz_goto (pc := 138) (tgt := 23) dX10_takenAway_138 (by decide) ?_
                    exact ih23 _ (k + 1) _ _ _ _ (by omega) (by omega) u2 l2 f2
                  · refine tz_aload_n (pc := 76) dX10_takenAway_76 rfl rfl ?_
                    refine tz_aload_n (pc := 77) dX10_takenAway_77 rfl rfl ?_
                    refine tz_iload (pc := 78) dX10_takenAway_78 rfl ?_
                    refine tz_iload (pc := 80) dX10_takenAway_80 rfl ?_
                    refine tz_cV (pc := 82) (c_part hl n _ _ _ (by omega) (by omega) b m (C.of (fun c hc => f2 c (by simp [zbut]; omega))) hn0 (by rw [f2 8 rfl]; omega)) vl_X10_93 dX10_takenAway_82 o_145 rfl rfl (Nat.le_of_ble_eq_true rfl) ⟨(Nat.le_of_ble_eq_true rfl), (Nat.le_of_ble_eq_true rfl)⟩ rfl rfl (Nat.le_of_ble_eq_true rfl) (Nat.le_of_ble_eq_true rfl) (fun r9 J_82 hq9 => ?_)
                    obtain ⟨zp, rfl, hz_82, rfl, hn9⟩ := hq9
                    refine tz_cV (pc := 85) (c_top hl n _ _ (by omega) b m hm hn9 u2.1) vl_X10_54 dX10_takenAway_85 o_145 rfl rfl (Nat.le_of_ble_eq_true rfl) ⟨(Nat.le_of_ble_eq_true rfl), (Nat.le_of_ble_eq_true rfl)⟩ rfl rfl (Nat.le_of_ble_eq_true rfl) (Nat.le_of_ble_eq_true rfl) (fun r9 J3 hq9 => ?_)
                    obtain ⟨zt, rfl, hz_85, t1, t2, t3⟩ := hq9
                    have tr := t2.1.rg hm
                    have l3 := l2.of (t3 153 rfl) (fun x q => by have := t1.2.2 x; rw [u2.2.1] at this; exact this q)
                    have a3 := t2.2
                    rw [u2.2.1] at a3
                    refine tz_istore (pc := 88) (L2 := [_, _, _, _, _, _, _]) dX10_takenAway_88 (by decide) rfl ?_
                    refine tz_aload_n (pc := 90) dX10_takenAway_90 rfl rfl ?_
                    refine tz_fR (pc := 91) dX10_takenAway_91 fl_X10_36 r_145_9 ?_
                    refine tz_iload (pc := 94) dX10_takenAway_94 rfl ?_
                    refine tz_dup2 (pc := 96) dX10_takenAway_96 rfl rfl ?_
                    refine tz_aL (pc := 97) (z := zt) (v := (J3 154 zt)) dX10_takenAway_97 a_154 rfl (by omega) rfl (fun r_97 => ?_)
                    refine tz_iconst (pc := 98) dX10_takenAway_98 ?_
                    refine tz_isub (pc := 99) (v := (J3 154 zt) - 1) dX10_takenAway_99 rfl ?_
                    refine tz_tw ?_
                    have rw_100 := zw_rg ((J3 154 zt) - 1)
                    refine tz_aS (pc := 100) (z := zt) dX10_takenAway_100 a_154 rfl (by omega) (zw_rg _) ?_
                    refine tz_aload_n (pc := 101) dX10_takenAway_101 rfl rfl ?_
                    refine tz_fR (pc := 102) dX10_takenAway_102 fl_X10_36 r_145_9 ?_
                    refine tz_iload (pc := 105) dX10_takenAway_105 rfl ?_
                    refine tz_aL (pc := 107) (z := zt) (v := (zw ((J3 154 zt) - 1))) dX10_takenAway_107 a_154 rfl (by omega) (by simp [zup]) (fun r_107 => ?_)
                    refine tz_if_ne (pc := 108) (tgt := 129) dX10_takenAway_108 (by decide) (zw_rg _) (fun h_108 => ?_) (fun h_108 => ?_)
                    · refine tz_iinc (pc := 129) (z := i + 1) (L2 := [_, _, _, _, _, _, _]) dX10_takenAway_129 rfl (by omega) rfl ?_
                      refine tz_goto (pc := 132) (tgt := 51) dX10_takenAway_132 (by decide) ?_
                      exact ih51 (g2) (i + 1) _ _ (by omega) (by omega) ((t1.tr u2).of (Int.le_refl _) rfl (fun c hc => by rcases (show c = 146 ∨ c = 147 ∨ c = 148 ∨ c = 149 ∨ c = 150 by omega) with rfl | rfl | rfl | rfl | rfl <;> rfl)) (lsI.of l3 rfl (fun _ q => q)) (zOf.up rfl ((t3.mono (fun c hc => by simp [zbut] at hc ⊢; omega)).tr f2))
                    · refine tz_iload_n (pc := 111) dX10_takenAway_111 rfl rfl ?_
                      refine tz_sipush (pc := 112) dX10_takenAway_112 (by decide) ?_
                      refine tz_icmp_ge (pc := 115) (tgt := 129) dX10_takenAway_115 (by decide) (by omega) (by decide) (fun h_115 => ?_) (fun h_115 => ?_)
                      · refine tz_iinc (pc := 129) (z := i + 1) (L2 := [_, _, _, _, _, _, _]) dX10_takenAway_129 rfl (by omega) rfl ?_
                        refine tz_goto (pc := 132) (tgt := 51) dX10_takenAway_132 (by decide) ?_
                        exact ih51 (g2) (i + 1) _ _ (by omega) (by omega) ((t1.tr u2).of (Int.le_refl _) rfl (fun c hc => by rcases (show c = 146 ∨ c = 147 ∨ c = 148 ∨ c = 149 ∨ c = 150 by omega) with rfl | rfl | rfl | rfl | rfl <;> rfl)) (lsI.of l3 rfl (fun _ q => q)) (zOf.up rfl ((t3.mono (fun c hc => by simp [zbut] at hc ⊢; omega)).tr f2))
                      · refine tz_aload_n (pc := 118) dX10_takenAway_118 rfl rfl ?_
                        refine tz_fR (pc := 119) dX10_takenAway_119 fl_X10_33 r_145_8 ?_
                        refine tz_iload_n (pc := 122) dX10_takenAway_122 rfl rfl ?_
                        refine tz_iload (pc := 123) dX10_takenAway_123 rfl ?_
                        refine tz_aS (pc := 125) (z := g2) dX10_takenAway_125 a_153 rfl (by omega) (by omega) ?_
                        refine tz_iinc (pc := 126) (z := g2 + 1) (L2 := [_, _, _, _, _, _, _]) dX10_takenAway_126 rfl (by omega) rfl ?_
                        refine tz_iinc (pc := 129) (z := i + 1) (L2 := [_, _, _, _, _, _, _]) dX10_takenAway_129 rfl (by omega) rfl ?_
                        refine tz_goto (pc := 132) (tgt := 51) dX10_takenAway_132 (by decide) ?_
                        exact ih51 (g2 + 1) (i + 1) _ _ (by omega) (by omega) ((t1.tr u2).of (Int.le_refl _) rfl (fun c hc => by rcases (show c = 146 ∨ c = 147 ∨ c = 148 ∨ c = 149 ∨ c = 150 by omega) with rfl | rfl | rfl | rfl | rfl <;> rfl)) (lsI.push (lsI.of l3 rfl (fun _ q => q)) (by omega) t2.1 a3) (zOf.up rfl (zOf.up rfl ((t3.mono (fun c hc => by simp [zbut] at hc ⊢; omega)).tr f2)))
            exact loop51 _ _ 0 _ _ (Nat.lt_succ_self _) (by omega) u1 l1 f1
    exact loop23 _ 1 0 _ _ _ _ (Nat.lt_succ_self _) (by omega) ((UW.rf hU).of (Int.le_refl _) rfl (fun c hc => by rcases (show c = 146 ∨ c = 147 ∨ c = 148 ∨ c = 149 ∨ c = 150 by omega) with rfl | rfl | rfl | rfl | rfl <;> rfl)) (lsI.push hL0 (by decide) hx ax) (zOf.up rfl zOf.rf)

set_option maxHeartbeats 4000000 in
set_option maxRecDepth 100000 in
theorem c_wayOf {l : Launch} {G : tb_G} (hl : l.stackTraces = false) (n : Nat) (J : zJ) (s : Int) (t : Int) (b : Int) (hr_s : -2147483648 ≤ s ∧ s < 2147483648) (hr_t : -2147483648 ≤ t ∧ t < 2147483648) (hr_b : -2147483648 ≤ b ∧ b < 2147483648) (m : Int) (C : CT J m) (hs : 0 ≤ s ∧ s < m) (ht : 0 ≤ t ∧ t < m) (hb : b = 0 ∨ b = 400) (hR : RU J) (h9 : J 145 10 < 2000000000) : tz_Ok l G M_X10_wayOf 4 0 0 [.ref 145, zi s, zi t, zi b] n J (zqi (fun z J' => (z = 0 ∨ z = 1 ∨ z = 2) ∧ UI J' b m ∧ J' 145 10 = J 145 10 + 1 ∧ zOf (zbut [145, 146, 147, 148, 149, 150, 151, 152, 153, 154]) J' J)) zN := by
  refine tz_Ok.of hl (by decide +kernel) rfl (tb_c1 rfl) (Nat.le_of_ble_eq_true rfl) ?_
  show tz_At l G M_X10_wayOf (tb_rm 4 0 0) none (tb_ZM G 0 0 (zQ n 0 (zqi (fun z J' => (z = 0 ∨ z = 1 ∨ z = 2) ∧ UI J' b m ∧ J' 145 10 = J 145 10 + 1 ∧ zOf (zbut [145, 146, 147, 148, 149, 150, 151, 152, 153, 154]) J' J))) (zX n 0 zN)) 0 0 n J 0 [some (.ref 145), some (zi s), some (zi t), some (zi b), none, none] []
  have hm := C.told.2
  have h0 := hR.1
  refine tz_aload_n (pc := 0) dX10_wayOf_0 rfl rfl ?_
  refine tz_dup (pc := 1) dX10_wayOf_1 rfl ?_
  refine tz_fI (pc := 2) (kz := 10) (v := (J 145 10)) dX10_wayOf_2 fl_X10_39 i_145_10 rfl rfl (fun r_2 => ?_)
  refine tz_iconst (pc := 5) dX10_wayOf_5 ?_
  refine tz_iadd (pc := 6) (v := (J 145 10) + 1) dX10_wayOf_6 rfl ?_
  refine tz_pI (pc := 7) (kz := 10) dX10_wayOf_7 fl_X10_39 i_145_10 rfl rfl (by omega) ?_
  refine tz_aload_n (pc := 10) dX10_wayOf_10 rfl rfl ?_
  refine tz_iconst (pc := 11) dX10_wayOf_11 ?_
  refine tz_pI (pc := 12) (kz := 11) dX10_wayOf_12 fl_X10_43 i_145_11 rfl rfl (by decide) ?_
  refine tz_aload_n (pc := 15) dX10_wayOf_15 rfl rfl ?_
  refine tz_iload_n (pc := 16) dX10_wayOf_16 rfl rfl ?_
  refine tz_iload_n (pc := 17) dX10_wayOf_17 rfl rfl ?_
  refine tz_iload_n (pc := 18) dX10_wayOf_18 rfl rfl ?_
  refine tz_iadd (pc := 19) (v := t + b) dX10_wayOf_19 rfl ?_
  refine tz_cV (pc := 20) (c_addPair hl n _ _ _ (by omega) (by omega) b m ⟨⟨Int.le_refl 0, (by decide : (0 : Int) ≤ 2401)⟩, fun k a c => absurd c (by show ¬ k < 0; omega)⟩ (Or.inl hs) (by unfold nd; omega)) vl_X10_50 dX10_wayOf_20 o_145 rfl rfl (Nat.le_of_ble_eq_true rfl) ⟨(Nat.le_of_ble_eq_true rfl), (Nat.le_of_ble_eq_true rfl)⟩ rfl rfl (Nat.le_of_ble_eq_true rfl) (Nat.le_of_ble_eq_true rfl) (fun r9 J_20 hq9 => ?_)
  obtain ⟨rfl, k1, k2, k3⟩ := hq9
  have u0 : UI J_20 b m := hR.start (by rw [k2]; rfl) (k3 146 rfl)
  have f0 : zOf (zbut [145, 146, 147, 148, 149, 150, 151, 152, 153, 154]) J_20 J := (k3.mono (fun c hc => by simp [zbut] at hc ⊢; omega)).tr (zOf.up rfl (zOf.up rfl zOf.rf))
  have e0 : J_20 145 10 = J 145 10 + 1 := k2
  refine tz_iconst (pc := 23) dX10_wayOf_23 ?_
  refine tz_istore (pc := 24) (L2 := [_, _, _, _, _, _]) dX10_wayOf_24 (by decide) rfl ?_
  have loop26 : ∀ (f9 : Nat) (k : Int) (J1 : zJ), ((2401 - k).toNat) < f9 → (0 ≤ k ∧ k ≤ 2401) → (UI J1 b m) → (J1 145 10 = J 145 10 + 1) → (PI J1 b m) → (zOf (zbut [145, 146, 147, 148, 149, 150, 151, 152, 153, 154]) J1 J) → tz_At l G M_X10_wayOf (tb_rm 4 0 0) none (tb_ZM G 0 0 (zQ n 0 (zqi (fun z J' => (z = 0 ∨ z = 1 ∨ z = 2) ∧ UI J' b m ∧ J' 145 10 = J 145 10 + 1 ∧ zOf (zbut [145, 146, 147, 148, 149, 150, 151, 152, 153, 154]) J' J))) (zX n 0 zN)) 0 0 n J1 26 [some (.ref 145), some (zi s), some (zi t), some (zi b), some (zi k), none] [] := by
    intro f9
    induction f9 with
    | zero => intro k J1 hm9; exact absurd hm9 (Nat.not_lt_zero _)
    | succ f9 ih26 =>
      intro k J1 hm26 hk hu e1 hP1 fr
      refine tz_iload (pc := 26) dX10_wayOf_26 rfl ?_
      refine tz_aload_n (pc := 28) dX10_wayOf_28 rfl rfl ?_
      refine tz_fI (pc := 29) (kz := 11) (v := (J1 145 11)) dX10_wayOf_29 fl_X10_43 i_145_11 rfl rfl (fun r_29 => ?_)
      refine tz_icmp_ge (pc := 32) (tgt := 82) dX10_wayOf_32 (by decide) (by omega) (by omega) (fun h_32 => ?_) (fun h_32 => ?_)
      · refine tz_aload_n (pc := 82) dX10_wayOf_82 rfl rfl ?_
        refine tz_iload_n (pc := 83) dX10_wayOf_83 rfl rfl ?_
        have n_84 : nd b m _ := (Or.inl hs)
        have nr_84 := n_84.rg hm
        refine tz_cV (pc := 84) (c_top hl n _ _ (by omega) b m hm n_84 hu) vl_X10_54 dX10_wayOf_84 o_145 rfl rfl (Nat.le_of_ble_eq_true rfl) ⟨(Nat.le_of_ble_eq_true rfl), (Nat.le_of_ble_eq_true rfl)⟩ rfl rfl (Nat.le_of_ble_eq_true rfl) (Nat.le_of_ble_eq_true rfl) (fun r9 J_84 hq9 => ?_)
        obtain ⟨z_84, rfl, hz_84, u_84, ⟨v_84, w_84⟩, f_84⟩ := hq9
        have vr_84 := v_84.rg hm
        refine tz_istore (pc := 87) (L2 := [_, _, _, _, _, _]) dX10_wayOf_87 (by decide) rfl ?_
        refine tz_aload_n (pc := 89) dX10_wayOf_89 rfl rfl ?_
        refine tz_iload (pc := 90) dX10_wayOf_90 rfl ?_
        refine tz_cV (pc := 92) (c_listAll hl n _ _ (by omega) b m (C.of (fun c hc => (f_84 c (by simp [zbut]; omega)).trans (fr c (by simp [zbut]; omega)))) u_84.1 v_84 (by rw [w_84, u_84.2.1])) vl_X10_62 dX10_wayOf_92 o_145 rfl rfl (Nat.le_of_ble_eq_true rfl) ⟨(Nat.le_of_ble_eq_true rfl), (Nat.le_of_ble_eq_true rfl)⟩ rfl rfl (Nat.le_of_ble_eq_true rfl) (Nat.le_of_ble_eq_true rfl) (fun r9 J_92 hq9 => ?_)
        obtain ⟨z_92, rfl, hz_92, l1, l2⟩ := hq9
        refine tz_istore (pc := 95) (L2 := [_, _, _, _, _, _]) dX10_wayOf_95 (by decide) rfl ?_
        refine tz_aload_n (pc := 97) dX10_wayOf_97 rfl rfl ?_
        refine tz_iload (pc := 98) dX10_wayOf_98 rfl ?_
        refine tz_cV (pc := 100) (c_taken hl n _ _ (by omega) b m (C.of (fun c hc => (l2 c (by simp [zbut]; omega)).trans ((f_84 c (by simp [zbut]; omega)).trans (fr c (by simp [zbut]; omega))))) l1.1 v_84 (by have := l1.2.2 z_84 (by rw [w_84, u_84.2.1]); rw [this, l1.2.1])) vl_X10_65 dX10_wayOf_100 o_145 rfl rfl (Nat.le_of_ble_eq_true rfl) ⟨(Nat.le_of_ble_eq_true rfl), (Nat.le_of_ble_eq_true rfl)⟩ rfl rfl (Nat.le_of_ble_eq_true rfl) (Nat.le_of_ble_eq_true rfl) (fun r9 J_100 hq9 => ?_)
        obtain ⟨z_100, rfl, hz_100, t1, t2⟩ := hq9
        have hfr4 : zOf (zbut [145, 146, 147, 148, 149, 150, 151, 152, 153, 154]) J_100 J := (t2.mono (fun c hc => by simp [zbut] at hc ⊢; omega)).tr ((l2.mono (fun c hc => by simp [zbut] at hc ⊢; omega)).tr ((f_84.mono (fun c hc => by simp [zbut] at hc ⊢; omega)).tr fr))
        refine tz_iload (pc := 103) dX10_wayOf_103 rfl ?_
        refine tz_icmp_ge (pc := 105) (tgt := 112) dX10_wayOf_105 (by decide) (by omega) (by omega) (fun h_105 => ?_) (fun h_105 => ?_)
        · refine tz_iconst (pc := 112) dX10_wayOf_112 ?_
          exact tz_iret (pc := 113) (z := 1) dX10_wayOf_113 rfl (Nat.le_of_ble_eq_true rfl) (Nat.le_of_ble_eq_true rfl) ⟨Nat.le_refl _, Nat.le_add_right _ _⟩ ⟨_, rfl, (by decide), ⟨by omega, t1.1, by rw [t1.2.1, l1.2.1, u_84.2.1, e1], hfr4⟩⟩
        · refine tz_iconst (pc := 108) dX10_wayOf_108 ?_
          refine tz_goto (pc := 109) (tgt := 113) dX10_wayOf_109 (by decide) ?_
          exact tz_iret (pc := 113) (z := 2) dX10_wayOf_113 rfl (Nat.le_of_ble_eq_true rfl) (Nat.le_of_ble_eq_true rfl) ⟨Nat.le_refl _, Nat.le_add_right _ _⟩ ⟨_, rfl, (by decide), ⟨by omega, t1.1, by rw [t1.2.1, l1.2.1, u_84.2.1, e1], hfr4⟩⟩
      · refine tz_iload (pc := 35) dX10_wayOf_35 rfl ?_
        refine tz_aload_n (pc := 37) dX10_wayOf_37 rfl rfl ?_
        refine tz_fR (pc := 38) dX10_wayOf_38 fl_X10_27 r_145_6 ?_
        refine tz_aN (pc := 41) (lz := 2401) dX10_wayOf_41 a_151 rfl ?_
        refine tz_icmp_ge (pc := 42) (tgt := 82) dX10_wayOf_42 (by decide) (by omega) (by decide) (fun h_42 => ?_) (fun h_42 => ?_)
        · refine tz_aload_n (pc := 82) dX10_wayOf_82 rfl rfl ?_
          refine tz_iload_n (pc := 83) dX10_wayOf_83 rfl rfl ?_
          have n_84 : nd b m _ := (Or.inl hs)
          have nr_84 := n_84.rg hm
          refine tz_cV (pc := 84) (c_top hl n _ _ (by omega) b m hm n_84 hu) vl_X10_54 dX10_wayOf_84 o_145 rfl rfl (Nat.le_of_ble_eq_true rfl) ⟨(Nat.le_of_ble_eq_true rfl), (Nat.le_of_ble_eq_true rfl)⟩ rfl rfl (Nat.le_of_ble_eq_true rfl) (Nat.le_of_ble_eq_true rfl) (fun r9 J_84 hq9 => ?_)
          obtain ⟨z_84, rfl, hz_84, u_84, ⟨v_84, w_84⟩, f_84⟩ := hq9
          have vr_84 := v_84.rg hm
          refine tz_istore (pc := 87) (L2 := [_, _, _, _, _, _]) dX10_wayOf_87 (by decide) rfl ?_
          refine tz_aload_n (pc := 89) dX10_wayOf_89 rfl rfl ?_
          refine tz_iload (pc := 90) dX10_wayOf_90 rfl ?_
          refine tz_cV (pc := 92) (c_listAll hl n _ _ (by omega) b m (C.of (fun c hc => (f_84 c (by simp [zbut]; omega)).trans (fr c (by simp [zbut]; omega)))) u_84.1 v_84 (by rw [w_84, u_84.2.1])) vl_X10_62 dX10_wayOf_92 o_145 rfl rfl (Nat.le_of_ble_eq_true rfl) ⟨(Nat.le_of_ble_eq_true rfl), (Nat.le_of_ble_eq_true rfl)⟩ rfl rfl (Nat.le_of_ble_eq_true rfl) (Nat.le_of_ble_eq_true rfl) (fun r9 J_92 hq9 => ?_)
          obtain ⟨z_92, rfl, hz_92, l1, l2⟩ := hq9
          refine tz_istore (pc := 95) (L2 := [_, _, _, _, _, _]) dX10_wayOf_95 (by decide) rfl ?_
          refine tz_aload_n (pc := 97) dX10_wayOf_97 rfl rfl ?_
          refine tz_iload (pc := 98) dX10_wayOf_98 rfl ?_
          refine tz_cV (pc := 100) (c_taken hl n _ _ (by omega) b m (C.of (fun c hc => (l2 c (by simp [zbut]; omega)).trans ((f_84 c (by simp [zbut]; omega)).trans (fr c (by simp [zbut]; omega))))) l1.1 v_84 (by have := l1.2.2 z_84 (by rw [w_84, u_84.2.1]); rw [this, l1.2.1])) vl_X10_65 dX10_wayOf_100 o_145 rfl rfl (Nat.le_of_ble_eq_true rfl) ⟨(Nat.le_of_ble_eq_true rfl), (Nat.le_of_ble_eq_true rfl)⟩ rfl rfl (Nat.le_of_ble_eq_true rfl) (Nat.le_of_ble_eq_true rfl) (fun r9 J_100 hq9 => ?_)
          obtain ⟨z_100, rfl, hz_100, t1, t2⟩ := hq9
          have hfr4 : zOf (zbut [145, 146, 147, 148, 149, 150, 151, 152, 153, 154]) J_100 J := (t2.mono (fun c hc => by simp [zbut] at hc ⊢; omega)).tr ((l2.mono (fun c hc => by simp [zbut] at hc ⊢; omega)).tr ((f_84.mono (fun c hc => by simp [zbut] at hc ⊢; omega)).tr fr))
          refine tz_iload (pc := 103) dX10_wayOf_103 rfl ?_
          refine tz_icmp_ge (pc := 105) (tgt := 112) dX10_wayOf_105 (by decide) (by omega) (by omega) (fun h_105 => ?_) (fun h_105 => ?_)
          · refine tz_iconst (pc := 112) dX10_wayOf_112 ?_
            exact tz_iret (pc := 113) (z := 1) dX10_wayOf_113 rfl (Nat.le_of_ble_eq_true rfl) (Nat.le_of_ble_eq_true rfl) ⟨Nat.le_refl _, Nat.le_add_right _ _⟩ ⟨_, rfl, (by decide), ⟨by omega, t1.1, by rw [t1.2.1, l1.2.1, u_84.2.1, e1], hfr4⟩⟩
          · refine tz_iconst (pc := 108) dX10_wayOf_108 ?_
            refine tz_goto (pc := 109) (tgt := 113) dX10_wayOf_109 (by decide) ?_
            exact tz_iret (pc := 113) (z := 2) dX10_wayOf_113 rfl (Nat.le_of_ble_eq_true rfl) (Nat.le_of_ble_eq_true rfl) ⟨Nat.le_refl _, Nat.le_add_right _ _⟩ ⟨_, rfl, (by decide), ⟨by omega, t1.1, by rw [t1.2.1, l1.2.1, u_84.2.1, e1], hfr4⟩⟩
        · refine tz_aload_n (pc := 45) dX10_wayOf_45 rfl rfl ?_
          refine tz_aload_n (pc := 46) dX10_wayOf_46 rfl rfl ?_
          refine tz_aload_n (pc := 47) dX10_wayOf_47 rfl rfl ?_
          refine tz_fR (pc := 48) dX10_wayOf_48 fl_X10_27 r_145_6 ?_
          refine tz_iload (pc := 51) dX10_wayOf_51 rfl ?_
          refine tz_aL (pc := 53) (z := k) (v := (J1 151 k)) dX10_wayOf_53 a_151 rfl (by omega) rfl (fun r_53 => ?_)
          have n_54 : nd b m _ := (hP1.2 k (by omega) (by omega)).1
          have nr_54 := n_54.rg hm
          refine tz_cV (pc := 54) (c_top hl n _ _ (by omega) b m hm n_54 hu) vl_X10_54 dX10_wayOf_54 o_145 rfl rfl (Nat.le_of_ble_eq_true rfl) ⟨(Nat.le_of_ble_eq_true rfl), (Nat.le_of_ble_eq_true rfl)⟩ rfl rfl (Nat.le_of_ble_eq_true rfl) (Nat.le_of_ble_eq_true rfl) (fun r9 J_54 hq9 => ?_)
          obtain ⟨z_54, rfl, hz_54, u_54, ⟨v_54, w_54⟩, f_54⟩ := hq9
          have vr_54 := v_54.rg hm
          refine tz_aload_n (pc := 57) dX10_wayOf_57 rfl rfl ?_
          refine tz_aload_n (pc := 58) dX10_wayOf_58 rfl rfl ?_
          refine tz_fR (pc := 59) dX10_wayOf_59 fl_X10_30 r_145_7 ?_
          refine tz_iload (pc := 62) dX10_wayOf_62 rfl ?_
          refine tz_aL (pc := 64) (z := k) (v := (J1 152 k)) dX10_wayOf_64 a_152 rfl (by omega) (Eq.trans (congrFun (f_54 152 rfl) k) rfl) (fun r_64 => ?_)
          have n_65 : nd b m _ := (hP1.2 k (by omega) (by omega)).2
          have nr_65 := n_65.rg hm
          refine tz_cV (pc := 65) (c_top hl n _ _ (by omega) b m hm n_65 u_54.1) vl_X10_54 dX10_wayOf_65 o_145 rfl rfl (Nat.le_of_ble_eq_true rfl) ⟨(Nat.le_of_ble_eq_true rfl), (Nat.le_of_ble_eq_true rfl)⟩ rfl rfl (Nat.le_of_ble_eq_true rfl) (Nat.le_of_ble_eq_true rfl) (fun r9 J_65 hq9 => ?_)
          obtain ⟨z_65, rfl, hz_65, u_65, ⟨v_65, w_65⟩, f_65⟩ := hq9
          have vr_65 := v_65.rg hm
          refine tz_cV (pc := 68) (c_joined hl n _ _ _ (by omega) (by omega) b m (C.of (fun c hc => (f_65 c (by simp [zbut]; omega)).trans ((f_54 c (by simp [zbut]; omega)).trans (fr c (by simp [zbut]; omega))))) u_65.1 (hP1.of (by rw [congrFun (f_65 145 rfl) 11, congrFun (f_54 145 rfl) 11]) (by rw [f_65 151 rfl, f_54 151 rfl]) (by rw [f_65 152 rfl, f_54 152 rfl])) v_54 v_65 (by have := u_65.2.2 _ (w_54.trans u_54.2.1.symm); rw [this, u_65.2.1]) (by rw [w_65, u_65.2.1])) vl_X10_58 dX10_wayOf_68 o_145 rfl rfl (Nat.le_of_ble_eq_true rfl) ⟨(Nat.le_of_ble_eq_true rfl), (Nat.le_of_ble_eq_true rfl)⟩ rfl rfl (Nat.le_of_ble_eq_true rfl) (Nat.le_of_ble_eq_true rfl) (fun r9 J_68 hq9 => ?_)
          obtain ⟨z_68, rfl, hz_68, j1, j2, j3, j4⟩ := hq9
          have hfr3 : zOf (zbut [145, 146, 147, 148, 149, 150, 151, 152, 153, 154]) J_68 J := (j4.mono (fun c hc => by simp [zbut] at hc ⊢; omega)).tr ((f_65.mono (fun c hc => by simp [zbut] at hc ⊢; omega)).tr ((f_54.mono (fun c hc => by simp [zbut] at hc ⊢; omega)).tr fr))
          refine tz_if_ne (pc := 71) (tgt := 76) dX10_wayOf_71 (by decide) (by omega) (fun h_71 => ?_) (fun h_71 => ?_)
          · refine tz_iinc (pc := 76) (z := k + 1) (L2 := [_, _, _, _, _, _]) dX10_wayOf_76 rfl (by omega) rfl ?_
            refine tz_goto (pc := 79) (tgt := 26) dX10_wayOf_79 (by decide) ?_
            exact ih26 (k + 1) _ (by omega) (by omega) j1.1 (by rw [j1.2.1, u_65.2.1, u_54.2.1, e1]) j2 hfr3
          · refine tz_iconst (pc := 74) dX10_wayOf_74 ?_
            exact tz_iret (pc := 75) (z := 0) dX10_wayOf_75 rfl (Nat.le_of_ble_eq_true rfl) (Nat.le_of_ble_eq_true rfl) ⟨Nat.le_refl _, Nat.le_add_right _ _⟩ ⟨_, rfl, (by decide), ⟨Or.inl rfl, j1.1, by rw [j1.2.1, u_65.2.1, u_54.2.1, e1], hfr3⟩⟩
  exact loop26 _ 0 _ (Nat.lt_succ_self _) (by omega) u0 e0 k1 f0

end
section
def UG (J' J : zJ) (m m' : Int) : Prop := GX [146, 147, 148, 149, 150, 154] J' J m m' ∧ UW J' J 0 m'
theorem UG.rf {J : zJ} {m : Int} (C : CT J m) (hm : J 6 12 = m) (hU : UI J 0 m) : UG J J m m := ⟨GX.rf C hm, UW.rf hU⟩
theorem UG.tr {J3 J2 J1 : zJ} {m1 m2 m3 : Int} (g : UG J2 J1 m1 m2) (h : UG J3 J2 m2 m3) : UG J3 J1 m1 m3 := ⟨g.1.tr h.1, h.2.tr g.2⟩
theorem UG.top {J2 J1 J : zJ} {m m1 : Int} (g : UG J1 J m m1) (h : UW J2 J1 0 m1) (f : zOf (zbut [146, 147, 148, 149, 150, 154]) J2 J1) : UG J2 J m m1 := ⟨g.1.off rfl f, h.tr g.2⟩
theorem UG.made {J2 J1 J : zJ} {m m1 m2 : Int} (g : UG J1 J m m1) (h : GR J2 J1 m1 m2) : UG J2 J m m2 := ⟨g.1.tr h.x, g.2.of h.1 (congrFun (h.2.2.2.2 145 rfl) 10) (fun c hc => h.2.2.2.2 c (by simp [zbut]; omega))⟩
theorem UG.sv {J1 J : zJ} {m m1 x v : Int} (g : UG J1 J m m1) (hv : v = -3 ∨ (0 ≤ v ∧ v < m1)) : UG (zup J1 150 x v) J m m1 := ⟨g.1.off rfl (zOf.up rfl zOf.rf), g.2.p5 (Or.inr hv)⟩
theorem nd.z {m x : Int} (h : nd 0 m x) : 0 ≤ x ∧ x < m := by
  unfold nd at h
  omega
theorem GX.b {J2 J1 J : zJ} {m m1 m2 : Int} (g : GX [19, 146, 147, 148, 149, 150, 154] J1 J m m1) (h : UG J2 J1 m1 m2) : GX [19, 146, 147, 148, 149, 150, 154] J2 J m m2 := g.tr (h.1.mono (fun c hc => by simp at hc ⊢; omega))
theorem UG.made0 {J2 J1 : zJ} {m1 m2 : Int} (hU : UI J1 0 m1) (h : GR J2 J1 m1 m2) : UI J2 0 m2 := hU.of h.1 (congrFun (h.2.2.2.2 145 rfl) 10) (fun c hc => h.2.2.2.2 c (by simp [zbut]; omega))
end
section
set_option maxHeartbeats 4000000 in
set_option maxRecDepth 100000 in
theorem c_compared {l : Launch} {G : tb_G} (hl : l.stackTraces = false) (n : Nat) (J : zJ) (s : Int) (t : Int) (hr_s : -2147483648 ≤ s ∧ s < 2147483648) (hr_t : -2147483648 ≤ t ∧ t < 2147483648) (m : Int) (C : CT J m) (hs : 0 ≤ s ∧ s < m) (ht : 0 ≤ t ∧ t < m) : tz_Ok l G M_X7_compared 9 0 0 [.ref 155, zi s, zi t] n J (zqi (fun z J' => zOf (zbut [156, 157]) J' J ∧ J' 156 3 = J 156 3)) zN := by
  refine tz_Ok.of hl (by decide +kernel) rfl (tb_c1 rfl) (Nat.le_of_ble_eq_true rfl) ?_
  show tz_At l G M_X7_compared (tb_rm 9 0 0) none (tb_ZM G 0 0 (zQ n 0 (zqi (fun z J' => zOf (zbut [156, 157]) J' J ∧ J' 156 3 = J 156 3))) (zX n 0 zN)) 0 0 n J 0 [some (.ref 155), some (zi s), some (zi t)] []
  refine tz_iload_n (pc := 0) dX7_compared_0 rfl rfl ?_
  refine tz_iload_n (pc := 1) dX7_compared_1 rfl rfl ?_
  refine tz_icmp_ne (pc := 2) (tgt := 7) dX7_compared_2 (by decide) (by omega) (by omega) (fun h_2 => ?_) (fun h_2 => ?_)
  · refine tz_aload_n (pc := 7) dX7_compared_7 rfl rfl ?_
    refine tz_fR (pc := 8) dX7_compared_8 fl_X7_30 r_155_4 ?_
    refine tz_iload_n (pc := 11) dX7_compared_11 rfl rfl ?_
    refine tz_iload_n (pc := 12) dX7_compared_12 rfl rfl ?_
    refine tz_cV (pc := 13) (c_greater hl n _ _ _ (by omega) (by omega) m C hs ht) vl_X7_34 dX7_compared_13 o_156 rfl rfl (Nat.le_of_ble_eq_true rfl) ⟨(Nat.le_of_ble_eq_true rfl), (Nat.le_of_ble_eq_true rfl)⟩ rfl rfl (Nat.le_of_ble_eq_true rfl) (Nat.le_of_ble_eq_true rfl) (fun r9 J_13 hq9 => ?_)
    obtain ⟨z_13, rfl, hz_13, h1, f1, k1⟩ := hq9
    refine tz_if_eq (pc := 16) (tgt := 21) dX7_compared_16 (by decide) (by omega) (fun h_16 => ?_) (fun h_16 => ?_)
    · refine tz_aload_n (pc := 21) dX7_compared_21 rfl rfl ?_
      refine tz_fR (pc := 22) dX7_compared_22 fl_X7_30 r_155_4 ?_
      refine tz_iload_n (pc := 25) dX7_compared_25 rfl rfl ?_
      refine tz_iload_n (pc := 26) dX7_compared_26 rfl rfl ?_
      refine tz_cV (pc := 27) (c_greater hl n _ _ _ (by omega) (by omega) m (C.of (fun c hc => f1 c (by simp [zbut]; omega))) ht hs) vl_X7_34 dX7_compared_27 o_156 rfl rfl (Nat.le_of_ble_eq_true rfl) ⟨(Nat.le_of_ble_eq_true rfl), (Nat.le_of_ble_eq_true rfl)⟩ rfl rfl (Nat.le_of_ble_eq_true rfl) (Nat.le_of_ble_eq_true rfl) (fun r9 J_27 hq9 => ?_)
      obtain ⟨z_27, rfl, hz_27, h2, f2, k2⟩ := hq9
      refine tz_if_eq (pc := 30) (tgt := 37) dX7_compared_30 (by decide) (by omega) (fun h_30 => ?_) (fun h_30 => ?_)
      · refine tz_iconst (pc := 37) dX7_compared_37 ?_
        exact tz_iret (pc := 38) (z := 3) dX7_compared_38 rfl (Nat.le_of_ble_eq_true rfl) (Nat.le_of_ble_eq_true rfl) ⟨Nat.le_refl _, Nat.le_add_right _ _⟩ ⟨_, rfl, (by decide), (by first | exact ⟨f2.tr f1, k2.trans k1⟩ | exact ⟨f1, k1⟩ | exact ⟨zOf.rf, rfl⟩)⟩
      · refine tz_iconst (pc := 33) dX7_compared_33 ?_
        refine tz_goto (pc := 34) (tgt := 38) dX7_compared_34 (by decide) ?_
        exact tz_iret (pc := 38) (z := 2) dX7_compared_38 rfl (Nat.le_of_ble_eq_true rfl) (Nat.le_of_ble_eq_true rfl) ⟨Nat.le_refl _, Nat.le_add_right _ _⟩ ⟨_, rfl, (by decide), (by first | exact ⟨f2.tr f1, k2.trans k1⟩ | exact ⟨f1, k1⟩ | exact ⟨zOf.rf, rfl⟩)⟩
    · refine tz_iconst (pc := 19) dX7_compared_19 ?_
      exact tz_iret (pc := 20) (z := 1) dX7_compared_20 rfl (Nat.le_of_ble_eq_true rfl) (Nat.le_of_ble_eq_true rfl) ⟨Nat.le_refl _, Nat.le_add_right _ _⟩ ⟨_, rfl, (by decide), (by first | exact ⟨f2.tr f1, k2.trans k1⟩ | exact ⟨f1, k1⟩ | exact ⟨zOf.rf, rfl⟩)⟩
  · refine tz_iconst (pc := 5) dX7_compared_5 ?_
    exact tz_iret (pc := 6) (z := 0) dX7_compared_6 rfl (Nat.le_of_ble_eq_true rfl) (Nat.le_of_ble_eq_true rfl) ⟨Nat.le_refl _, Nat.le_add_right _ _⟩ ⟨_, rfl, (by decide), (by first | exact ⟨f2.tr f1, k2.trans k1⟩ | exact ⟨f1, k1⟩ | exact ⟨zOf.rf, rfl⟩)⟩

set_option maxHeartbeats 4000000 in
set_option maxRecDepth 100000 in
theorem c_isRule {l : Launch} {G : tb_G} (hl : l.stackTraces = false) (n : Nat) (J : zJ) (x : Int) (y : Int) (hr_x : -2147483648 ≤ x ∧ x < 2147483648) (hr_y : -2147483648 ≤ y ∧ y < 2147483648) (m : Int) (C : CT J m) (hm : J 6 12 = m) : tz_Ok l G M_X7_isRule 9 0 0 [.ref 155, zi x, zi y] n J (zqi (fun z J' => (z = 0 ∨ z = 1) ∧ zOf (zbut [156, 157]) J' J ∧ (z = 1 → (0 ≤ x ∧ x < m) ∧ (0 ≤ y ∧ y < m)) ∧ J' 156 3 = J 156 3)) zN := by
  refine tz_Ok.of hl (by decide +kernel) rfl (tb_c1 rfl) (Nat.le_of_ble_eq_true rfl) ?_
  show tz_At l G M_X7_isRule (tb_rm 9 0 0) none (tb_ZM G 0 0 (zQ n 0 (zqi (fun z J' => (z = 0 ∨ z = 1) ∧ zOf (zbut [156, 157]) J' J ∧ (z = 1 → (0 ≤ x ∧ x < m) ∧ (0 ≤ y ∧ y < m)) ∧ J' 156 3 = J 156 3))) (zX n 0 zN)) 0 0 n J 0 [some (.ref 155), some (zi x), some (zi y)] []
  have hb := C.told
  refine tz_aload_n (pc := 0) dX7_isRule_0 rfl rfl ?_
  refine tz_fR (pc := 1) dX7_isRule_1 fl_X7_21 r_155_1 ?_
  refine tz_iload_n (pc := 4) dX7_isRule_4 rfl rfl ?_
  refine tz_cV (pc := 5) (c_has hl n _ _ (by omega)) vl_X7_40 dX7_isRule_5 o_6 rfl rfl (Nat.le_of_ble_eq_true rfl) ⟨(Nat.le_of_ble_eq_true rfl), (Nat.le_of_ble_eq_true rfl)⟩ rfl rfl (Nat.le_of_ble_eq_true rfl) (Nat.le_of_ble_eq_true rfl) (fun r9 J_5 hq9 => ?_)
  obtain ⟨z_5, rfl, hz_5, rfl, rfl⟩ := hq9
  by_cases hw_8 : 0 ≤ x ∧ x < J 6 12
  · rw [show (if 0 ≤ x ∧ x < J 6 12 then 1 else 0 : Int) = 1 from if_pos hw_8]
    refine tz_if_eqF (pc := 8) (tgt := 77) (by decide) dX7_isRule_8 (by decide) (by decide) ?_
    refine tz_aload_n (pc := 11) dX7_isRule_11 rfl rfl ?_
    refine tz_fR (pc := 12) dX7_isRule_12 fl_X7_21 r_155_1 ?_
    refine tz_iload_n (pc := 15) dX7_isRule_15 rfl rfl ?_
    refine tz_cV (pc := 16) (c_has hl n _ _ (by omega)) vl_X7_40 dX7_isRule_16 o_6 rfl rfl (Nat.le_of_ble_eq_true rfl) ⟨(Nat.le_of_ble_eq_true rfl), (Nat.le_of_ble_eq_true rfl)⟩ rfl rfl (Nat.le_of_ble_eq_true rfl) (Nat.le_of_ble_eq_true rfl) (fun r9 J_16 hq9 => ?_)
    obtain ⟨z_16, rfl, hz_16, rfl, rfl⟩ := hq9
    by_cases hw_19 : 0 ≤ y ∧ y < J 6 12
    · rw [show (if 0 ≤ y ∧ y < J 6 12 then 1 else 0 : Int) = 1 from if_pos hw_19]
      refine tz_if_eqF (pc := 19) (tgt := 77) (by decide) dX7_isRule_19 (by decide) (by decide) ?_
      refine tz_aload_n (pc := 22) dX7_isRule_22 rfl rfl ?_
      refine tz_fR (pc := 23) dX7_isRule_23 fl_X7_21 r_155_1 ?_
      refine tz_iload_n (pc := 26) dX7_isRule_26 rfl rfl ?_
      refine tz_cV (pc := 27) (c_isVar hl n _ _ (by omega) (by omega)) vl_X7_46 dX7_isRule_27 o_6 rfl rfl (Nat.le_of_ble_eq_true rfl) ⟨(Nat.le_of_ble_eq_true rfl), (Nat.le_of_ble_eq_true rfl)⟩ rfl rfl (Nat.le_of_ble_eq_true rfl) (Nat.le_of_ble_eq_true rfl) (fun r9 J_27 hq9 => ?_)
      obtain ⟨z_27, rfl, hz_27, rfl, rfl⟩ := hq9
      by_cases hw_30 : J 7 x < 0
      · rw [show (if J 7 x < 0 then 1 else 0 : Int) = 1 from if_pos hw_30]
        refine tz_if_neT (pc := 30) (tgt := 77) (by decide) dX7_isRule_30 (by decide) (by decide) ?_
        refine tz_iconst (pc := 77) dX7_isRule_77 ?_
        exact tz_zret (pc := 78) (z := 0) dX7_isRule_78 rfl (Or.inl rfl) (Nat.le_of_ble_eq_true rfl) (Nat.le_of_ble_eq_true rfl) ⟨Nat.le_refl _, Nat.le_add_right _ _⟩ ⟨_, rfl, (by decide), (by first | exact ⟨by omega, f1, fun _ => by omega, k1⟩ | exact ⟨Or.inl rfl, zOf.rf, fun e => by omega, rfl⟩)⟩
      · rw [show (if J 7 x < 0 then 1 else 0 : Int) = 0 from if_neg hw_30]
        refine tz_if_neF (pc := 30) (tgt := 77) (by decide) dX7_isRule_30 (by decide) (by decide) ?_
        refine tz_aload_n (pc := 33) dX7_isRule_33 rfl rfl ?_
        refine tz_fR (pc := 34) dX7_isRule_34 fl_X7_21 r_155_1 ?_
        refine tz_fR (pc := 37) dX7_isRule_37 fl_X7_49 r_6_4 ?_
        refine tz_iload_n (pc := 40) dX7_isRule_40 rfl rfl ?_
        refine tz_aL (pc := 41) (z := x) (v := (J 10 x)) dX7_isRule_41 a_10 rfl (by omega) rfl (fun r_41 => ?_)
        refine tz_bipush (pc := 42) dX7_isRule_42 (by decide) ?_
        refine tz_icmp_gt (pc := 44) (tgt := 77) dX7_isRule_44 (by decide) (by omega) (by decide) (fun h_44 => ?_) (fun h_44 => ?_)
        · refine tz_iconst (pc := 77) dX7_isRule_77 ?_
          exact tz_zret (pc := 78) (z := 0) dX7_isRule_78 rfl (Or.inl rfl) (Nat.le_of_ble_eq_true rfl) (Nat.le_of_ble_eq_true rfl) ⟨Nat.le_refl _, Nat.le_add_right _ _⟩ ⟨_, rfl, (by decide), (by first | exact ⟨by omega, f1, fun _ => by omega, k1⟩ | exact ⟨Or.inl rfl, zOf.rf, fun e => by omega, rfl⟩)⟩
        · refine tz_aload_n (pc := 47) dX7_isRule_47 rfl rfl ?_
          refine tz_fR (pc := 48) dX7_isRule_48 fl_X7_21 r_155_1 ?_
          refine tz_fR (pc := 51) dX7_isRule_51 fl_X7_49 r_6_4 ?_
          refine tz_iload_n (pc := 54) dX7_isRule_54 rfl rfl ?_
          refine tz_aL (pc := 55) (z := y) (v := (J 10 y)) dX7_isRule_55 a_10 rfl (by omega) rfl (fun r_55 => ?_)
          refine tz_bipush (pc := 56) dX7_isRule_56 (by decide) ?_
          refine tz_icmp_gt (pc := 58) (tgt := 77) dX7_isRule_58 (by decide) (by omega) (by decide) (fun h_58 => ?_) (fun h_58 => ?_)
          · refine tz_iconst (pc := 77) dX7_isRule_77 ?_
            exact tz_zret (pc := 78) (z := 0) dX7_isRule_78 rfl (Or.inl rfl) (Nat.le_of_ble_eq_true rfl) (Nat.le_of_ble_eq_true rfl) ⟨Nat.le_refl _, Nat.le_add_right _ _⟩ ⟨_, rfl, (by decide), (by first | exact ⟨by omega, f1, fun _ => by omega, k1⟩ | exact ⟨Or.inl rfl, zOf.rf, fun e => by omega, rfl⟩)⟩
          · refine tz_aload_n (pc := 61) dX7_isRule_61 rfl rfl ?_
            refine tz_fR (pc := 62) dX7_isRule_62 fl_X7_30 r_155_4 ?_
            refine tz_iload_n (pc := 65) dX7_isRule_65 rfl rfl ?_
            refine tz_iload_n (pc := 66) dX7_isRule_66 rfl rfl ?_
            refine tz_cV (pc := 67) (c_greater hl n _ _ _ (by omega) (by omega) m C (by omega) (by omega)) vl_X7_34 dX7_isRule_67 o_156 rfl rfl (Nat.le_of_ble_eq_true rfl) ⟨(Nat.le_of_ble_eq_true rfl), (Nat.le_of_ble_eq_true rfl)⟩ rfl rfl (Nat.le_of_ble_eq_true rfl) (Nat.le_of_ble_eq_true rfl) (fun r9 J_67 hq9 => ?_)
            obtain ⟨z_67, rfl, hz_67, h1, f1, k1⟩ := hq9
            refine tz_if_eq (pc := 70) (tgt := 77) dX7_isRule_70 (by decide) (by omega) (fun h_70 => ?_) (fun h_70 => ?_)
            · refine tz_iconst (pc := 77) dX7_isRule_77 ?_
              exact tz_zret (pc := 78) (z := 0) dX7_isRule_78 rfl (Or.inl rfl) (Nat.le_of_ble_eq_true rfl) (Nat.le_of_ble_eq_true rfl) ⟨Nat.le_refl _, Nat.le_add_right _ _⟩ ⟨_, rfl, (by decide), (by first | exact ⟨by omega, f1, fun _ => by omega, k1⟩ | exact ⟨Or.inl rfl, zOf.rf, fun e => by omega, rfl⟩)⟩
            · refine tz_iconst (pc := 73) dX7_isRule_73 ?_
              refine tz_goto (pc := 74) (tgt := 78) dX7_isRule_74 (by decide) ?_
              exact tz_zret (pc := 78) (z := 1) dX7_isRule_78 rfl (Or.inr rfl) (Nat.le_of_ble_eq_true rfl) (Nat.le_of_ble_eq_true rfl) ⟨Nat.le_refl _, Nat.le_add_right _ _⟩ ⟨_, rfl, (by decide), (by first | exact ⟨by omega, f1, fun _ => by omega, k1⟩ | exact ⟨Or.inl rfl, zOf.rf, fun e => by omega, rfl⟩)⟩
    · rw [show (if 0 ≤ y ∧ y < J 6 12 then 1 else 0 : Int) = 0 from if_neg hw_19]
      refine tz_if_eqT (pc := 19) (tgt := 77) (by decide) dX7_isRule_19 (by decide) (by decide) ?_
      refine tz_iconst (pc := 77) dX7_isRule_77 ?_
      exact tz_zret (pc := 78) (z := 0) dX7_isRule_78 rfl (Or.inl rfl) (Nat.le_of_ble_eq_true rfl) (Nat.le_of_ble_eq_true rfl) ⟨Nat.le_refl _, Nat.le_add_right _ _⟩ ⟨_, rfl, (by decide), (by first | exact ⟨by omega, f1, fun _ => by omega, k1⟩ | exact ⟨Or.inl rfl, zOf.rf, fun e => by omega, rfl⟩)⟩
  · rw [show (if 0 ≤ x ∧ x < J 6 12 then 1 else 0 : Int) = 0 from if_neg hw_8]
    refine tz_if_eqT (pc := 8) (tgt := 77) (by decide) dX7_isRule_8 (by decide) (by decide) ?_
    refine tz_iconst (pc := 77) dX7_isRule_77 ?_
    exact tz_zret (pc := 78) (z := 0) dX7_isRule_78 rfl (Or.inl rfl) (Nat.le_of_ble_eq_true rfl) (Nat.le_of_ble_eq_true rfl) ⟨Nat.le_refl _, Nat.le_add_right _ _⟩ ⟨_, rfl, (by decide), (by first | exact ⟨by omega, f1, fun _ => by omega, k1⟩ | exact ⟨Or.inl rfl, zOf.rf, fun e => by omega, rfl⟩)⟩

set_option maxHeartbeats 4000000 in
set_option maxRecDepth 100000 in
theorem c_fitsBy {l : Launch} {G : tb_G} (hl : l.stackTraces = false) (n : Nat) (J : zJ) (s : Int) (u : Int) (hr_s : -2147483648 ≤ s ∧ s < 2147483648) (hr_u : -2147483648 ≤ u ∧ u < 2147483648) (m : Int) (C : CT J m) (hm : J 6 12 = m) (hL : LI (J 19) m) : tz_Ok l G M_X7_fitsBy 10 0 0 [.ref 155, zi s, zi u] n J (zqi (fun z J' => (z = 0 ∨ z = 1) ∧ zOf (zbut [156, 157]) J' J ∧ J' 156 3 = -1)) zN := by
  refine tz_Ok.of hl (by decide +kernel) rfl (tb_c1 rfl) (Nat.le_of_ble_eq_true rfl) ?_
  show tz_At l G M_X7_fitsBy (tb_rm 10 0 0) none (tb_ZM G 0 0 (zQ n 0 (zqi (fun z J' => (z = 0 ∨ z = 1) ∧ zOf (zbut [156, 157]) J' J ∧ J' 156 3 = -1))) (zX n 0 zN)) 0 0 n J 0 [some (.ref 155), some (zi s), some (zi u), none, none, none] []
  have hb := C.told
  have h4 := hL.1.2.1
  refine tz_aload_n (pc := 0) dX7_fitsBy_0 rfl rfl ?_
  refine tz_fR (pc := 1) dX7_fitsBy_1 fl_X7_9 r_155_0 ?_
  refine tz_fR (pc := 4) dX7_fitsBy_4 fl_X7_56 r_5_1 ?_
  refine tz_fR (pc := 7) dX7_fitsBy_7 fl_X7_60 r_18_0 ?_
  refine tz_astore_n (pc := 10) (L2 := [_, _, _, _, _, _]) dX7_fitsBy_10 rfl (by decide) rfl ?_
  refine tz_iconst (pc := 11) dX7_fitsBy_11 ?_
  refine tz_istore (pc := 12) (L2 := [_, _, _, _, _, _]) dX7_fitsBy_12 (by decide) rfl ?_
  refine tz_aload_n (pc := 14) dX7_fitsBy_14 rfl rfl ?_
  refine tz_fR (pc := 15) dX7_fitsBy_15 fl_X7_30 r_155_4 ?_
  refine tz_iload_n (pc := 18) dX7_fitsBy_18 rfl rfl ?_
  refine tz_iload_n (pc := 19) dX7_fitsBy_19 rfl rfl ?_
  refine tz_cV (pc := 20) (c_tryW hl n _ _ _ (by omega) (by omega)) vl_X7_65 dX7_fitsBy_20 o_156 rfl rfl (Nat.le_of_ble_eq_true rfl) ⟨(Nat.le_of_ble_eq_true rfl), (Nat.le_of_ble_eq_true rfl)⟩ rfl rfl (Nat.le_of_ble_eq_true rfl) (Nat.le_of_ble_eq_true rfl) (fun r9 J_20 hq9 => ?_)
  obtain ⟨rfl, rfl⟩ := hq9
  refine tz_iconst (pc := 23) dX7_fitsBy_23 ?_
  refine tz_istore (pc := 24) (L2 := [_, _, _, _, _, _]) dX7_fitsBy_24 (by decide) rfl ?_
  have loop26 : ∀ (f9 : Nat) (q : Int) (i : Int) (J1 : zJ), ((8 - i).toNat) < f9 → (q = 0 ∨ q = 1) → (0 ≤ i ∧ i ≤ J 19 4) → (zOf (zbut [156, 157]) J1 J) → tz_At l G M_X7_fitsBy (tb_rm 10 0 0) none (tb_ZM G 0 0 (zQ n 0 (zqi (fun z J' => (z = 0 ∨ z = 1) ∧ zOf (zbut [156, 157]) J' J ∧ J' 156 3 = -1))) (zX n 0 zN)) 0 0 n J1 26 [some (.ref 155), some (zi s), some (zi u), some (.ref 19), some (zi q), some (zi i)] [] := by
    intro f9
    induction f9 with
    | zero => intro q i J1 hm9; exact absurd hm9 (Nat.not_lt_zero _)
    | succ f9 ih26 =>
      intro q i J1 hm26 hq hi f1
      have e9 := hL.2.2.1 i
      refine tz_iload (pc := 26) dX7_fitsBy_26 rfl ?_
      refine tz_aload_n (pc := 28) dX7_fitsBy_28 rfl rfl ?_
      refine tz_iconst (pc := 29) dX7_fitsBy_29 ?_
      refine tz_aL (pc := 30) (z := 4) (v := (J 19 4)) dX7_fitsBy_30 a_19 rfl (by decide) (Eq.trans (congrFun (f1 19 rfl) 4) rfl) (fun r_30 => ?_)
      refine tz_icmp_ge (pc := 31) (tgt := 65) dX7_fitsBy_31 (by decide) (by omega) (by omega) (fun h_31 => ?_) (fun h_31 => ?_)
      · refine tz_aload_n (pc := 65) dX7_fitsBy_65 rfl rfl ?_
        refine tz_fR (pc := 66) dX7_fitsBy_66 fl_X7_30 r_155_4 ?_
        refine tz_cV (pc := 69) (c_tryN hl n _) vl_X7_72 dX7_fitsBy_69 o_156 rfl rfl (Nat.le_of_ble_eq_true rfl) ⟨(Nat.le_of_ble_eq_true rfl), (Nat.le_of_ble_eq_true rfl)⟩ rfl rfl (Nat.le_of_ble_eq_true rfl) (Nat.le_of_ble_eq_true rfl) (fun r9 J_69 hq9 => ?_)
        obtain ⟨rfl, rfl⟩ := hq9
        refine tz_iload (pc := 72) dX7_fitsBy_72 rfl ?_
        exact tz_zret (pc := 74) (z := q) dX7_fitsBy_74 rfl (by omega) (Nat.le_of_ble_eq_true rfl) (Nat.le_of_ble_eq_true rfl) ⟨Nat.le_refl _, Nat.le_add_right _ _⟩ ⟨_, rfl, (by omega), ⟨hq, zOf.up rfl f1, zup_at⟩⟩
      · refine tz_iload (pc := 34) dX7_fitsBy_34 rfl ?_
        refine tz_if_eq (pc := 36) (tgt := 65) dX7_fitsBy_36 (by decide) (by omega) (fun h_36 => ?_) (fun h_36 => ?_)
        · refine tz_aload_n (pc := 65) dX7_fitsBy_65 rfl rfl ?_
          refine tz_fR (pc := 66) dX7_fitsBy_66 fl_X7_30 r_155_4 ?_
          refine tz_cV (pc := 69) (c_tryN hl n _) vl_X7_72 dX7_fitsBy_69 o_156 rfl rfl (Nat.le_of_ble_eq_true rfl) ⟨(Nat.le_of_ble_eq_true rfl), (Nat.le_of_ble_eq_true rfl)⟩ rfl rfl (Nat.le_of_ble_eq_true rfl) (Nat.le_of_ble_eq_true rfl) (fun r9 J_69 hq9 => ?_)
          obtain ⟨rfl, rfl⟩ := hq9
          refine tz_iload (pc := 72) dX7_fitsBy_72 rfl ?_
          exact tz_zret (pc := 74) (z := q) dX7_fitsBy_74 rfl (by omega) (Nat.le_of_ble_eq_true rfl) (Nat.le_of_ble_eq_true rfl) ⟨Nat.le_refl _, Nat.le_add_right _ _⟩ ⟨_, rfl, (by omega), ⟨hq, zOf.up rfl f1, zup_at⟩⟩
        · refine tz_aload_n (pc := 39) dX7_fitsBy_39 rfl rfl ?_
          refine tz_aload_n (pc := 40) dX7_fitsBy_40 rfl rfl ?_
          refine tz_bipush (pc := 41) dX7_fitsBy_41 (by decide) ?_
          refine tz_iload (pc := 43) dX7_fitsBy_43 rfl ?_
          refine tz_iadd (pc := 45) (v := 15 + i) dX7_fitsBy_45 rfl ?_
          refine tz_aL (pc := 46) (z := (15 + i)) (v := (J 19 (15 + i))) dX7_fitsBy_46 a_19 rfl (by omega) (Eq.trans (congrFun (f1 19 rfl) (15 + i)) rfl) (fun r_46 => ?_)
          refine tz_aload_n (pc := 47) dX7_fitsBy_47 rfl rfl ?_
          refine tz_bipush (pc := 48) dX7_fitsBy_48 (by decide) ?_
          refine tz_iload (pc := 50) dX7_fitsBy_50 rfl ?_
          refine tz_iadd (pc := 52) (v := 23 + i) dX7_fitsBy_52 rfl ?_
          refine tz_aL (pc := 53) (z := (23 + i)) (v := (J 19 (23 + i))) dX7_fitsBy_53 a_19 rfl (by omega) (Eq.trans (congrFun (f1 19 rfl) (23 + i)) rfl) (fun r_53 => ?_)
          refine tz_cV (pc := 54) (c_isRule hl n _ _ _ (by omega) (by omega) m (C.of (fun c hc => f1 c (by simp [zbut]; omega))) (by rw [f1 6 rfl]; exact hm)) vl_X7_69 dX7_fitsBy_54 o_155 rfl rfl (Nat.le_of_ble_eq_true rfl) ⟨(Nat.le_of_ble_eq_true rfl), (Nat.le_of_ble_eq_true rfl)⟩ rfl rfl (Nat.le_of_ble_eq_true rfl) (Nat.le_of_ble_eq_true rfl) (fun r9 J_54 hq9 => ?_)
          obtain ⟨z_54, rfl, hz_54, i1, i2, -⟩ := hq9
          refine tz_istore (pc := 57) (L2 := [_, _, _, _, _, _]) dX7_fitsBy_57 (by decide) rfl ?_
          refine tz_iinc (pc := 59) (z := i + 1) (L2 := [_, _, _, _, _, _]) dX7_fitsBy_59 rfl (by omega) rfl ?_
          refine tz_goto (pc := 62) (tgt := 26) dX7_fitsBy_62 (by decide) ?_
          exact ih26 _ (i + 1) _ (by omega) i1 (by omega) (i2.tr f1)
  exact loop26 _ 1 0 _ (Nat.lt_succ_self _) (Or.inr rfl) (by omega) (zOf.up rfl (zOf.up rfl zOf.rf))

set_option maxHeartbeats 4000000 in
set_option maxRecDepth 100000 in
theorem c_fits {l : Launch} {G : tb_G} (hl : l.stackTraces = false) (n : Nat) (J : zJ) (s : Int) (hr_s : -2147483648 ≤ s ∧ s < 2147483648) (m : Int) (C : CT J m) (hm : J 6 12 = m) (hL : LI (J 19) m) : tz_Ok l G M_X7_fits 11 0 0 [.ref 155, zi s] n J (zqi (fun z J' => zOf (zbut [156, 157]) J' J ∧ (J 156 3 = -1 → J' 156 3 = -1))) zN := by
  refine tz_Ok.of hl (by decide +kernel) rfl (tb_c1 rfl) (Nat.le_of_ble_eq_true rfl) ?_
  show tz_At l G M_X7_fits (tb_rm 11 0 0) none (tb_ZM G 0 0 (zQ n 0 (zqi (fun z J' => zOf (zbut [156, 157]) J' J ∧ (J 156 3 = -1 → J' 156 3 = -1)))) (zX n 0 zN)) 0 0 n J 0 [some (.ref 155), some (zi s), none, none] []
  refine tz_iconst (pc := 0) dX7_fits_0 ?_
  refine tz_istore_n (pc := 1) (L2 := [_, _, _, _]) dX7_fits_1 rfl (by decide) rfl ?_
  refine tz_iconst (pc := 2) dX7_fits_2 ?_
  refine tz_istore_n (pc := 3) (L2 := [_, _, _, _]) dX7_fits_3 rfl (by decide) rfl ?_
  have loop4 : ∀ (f9 : Nat) (q : Int) (u : Int) (J1 : zJ), ((10 - u).toNat) < f9 → ((1 ≤ u ∧ u ≤ 10) ∧ 0 ≤ q ∧ q < u) → (zOf (zbut [156, 157]) J1 J) → (J 156 3 = -1 → J1 156 3 = -1) → tz_At l G M_X7_fits (tb_rm 11 0 0) none (tb_ZM G 0 0 (zQ n 0 (zqi (fun z J' => zOf (zbut [156, 157]) J' J ∧ (J 156 3 = -1 → J' 156 3 = -1)))) (zX n 0 zN)) 0 0 n J1 4 [some (.ref 155), some (zi s), some (zi q), some (zi u)] [] := by
    intro f9
    induction f9 with
    | zero => intro q u J1 hm9; exact absurd hm9 (Nat.not_lt_zero _)
    | succ f9 ih4 =>
      intro q u J1 hm4 hu f1 k1
      refine tz_iload_n (pc := 4) dX7_fits_4 rfl rfl ?_
      refine tz_bipush (pc := 5) dX7_fits_5 (by decide) ?_
      refine tz_icmp_gt (pc := 7) (tgt := 33) dX7_fits_7 (by decide) (by omega) (by decide) (fun h_7 => ?_) (fun h_7 => ?_)
      · refine tz_iload_n (pc := 33) dX7_fits_33 rfl rfl ?_
        exact tz_iret (pc := 34) (z := q) dX7_fits_34 rfl (Nat.le_of_ble_eq_true rfl) (Nat.le_of_ble_eq_true rfl) ⟨Nat.le_refl _, Nat.le_add_right _ _⟩ ⟨_, rfl, (by omega), ⟨f1, k1⟩⟩
      · refine tz_iload_n (pc := 10) dX7_fits_10 rfl rfl ?_
        refine tz_aload_n (pc := 11) dX7_fits_11 rfl rfl ?_
        refine tz_iload_n (pc := 12) dX7_fits_12 rfl rfl ?_
        refine tz_iload_n (pc := 13) dX7_fits_13 rfl rfl ?_
        refine tz_cV (pc := 14) (c_fitsBy hl n _ _ _ (by omega) (by omega) m (C.of (fun c hc => f1 c (by simp [zbut]; omega))) (by rw [f1 6 rfl]; exact hm) (by rw [f1 19 rfl]; exact hL)) vl_X7_53 dX7_fits_14 o_155 rfl rfl (Nat.le_of_ble_eq_true rfl) ⟨(Nat.le_of_ble_eq_true rfl), (Nat.le_of_ble_eq_true rfl)⟩ rfl rfl (Nat.le_of_ble_eq_true rfl) (Nat.le_of_ble_eq_true rfl) (fun r9 J_14 hq9 => ?_)
        obtain ⟨z_14, rfl, hz_14, i1, i2, i3⟩ := hq9
        refine tz_if_eq (pc := 17) (tgt := 24) dX7_fits_17 (by decide) (by omega) (fun h_17 => ?_) (fun h_17 => ?_)
        · refine tz_iconst (pc := 24) dX7_fits_24 ?_
          refine tz_iadd (pc := 25) (v := q + 0) dX7_fits_25 rfl ?_
          refine tz_istore_n (pc := 26) (L2 := [_, _, _, _]) dX7_fits_26 rfl (by decide) rfl ?_
          refine tz_iinc (pc := 27) (z := u + 1) (L2 := [_, _, _, _]) dX7_fits_27 rfl (by omega) rfl ?_
          refine tz_goto (pc := 30) (tgt := 4) dX7_fits_30 (by decide) ?_
          exact ih4 _ (u + 1) _ (by omega) (by omega) (i2.tr f1) (fun _ => i3)
        · refine tz_iconst (pc := 20) dX7_fits_20 ?_
          refine tz_goto (pc := 21) (tgt := 25) dX7_fits_21 (by decide) ?_
          refine tz_iadd (pc := 25) (v := q + 1) dX7_fits_25 rfl ?_
          refine tz_istore_n (pc := 26) (L2 := [_, _, _, _]) dX7_fits_26 rfl (by decide) rfl ?_
          refine tz_iinc (pc := 27) (z := u + 1) (L2 := [_, _, _, _]) dX7_fits_27 rfl (by omega) rfl ?_
          refine tz_goto (pc := 30) (tgt := 4) dX7_fits_30 (by decide) ?_
          exact ih4 _ (u + 1) _ (by omega) (by omega) (i2.tr f1) (fun _ => i3)
  exact loop4 _ 0 1 _ (Nat.lt_succ_self _) (by omega) zOf.rf id

set_option maxHeartbeats 4000000 in
set_option maxRecDepth 100000 in
theorem c_leastFit {l : Launch} {G : tb_G} (hl : l.stackTraces = false) (n : Nat) (J : zJ) (s : Int) (hr_s : -2147483648 ≤ s ∧ s < 2147483648) (m : Int) (C : CT J m) (hm : J 6 12 = m) (hL : LI (J 19) m) : tz_Ok l G M_X7_leastFit 11 0 0 [.ref 155, zi s] n J (zqi (fun z J' => zOf (zbut [156, 157]) J' J ∧ (J 156 3 = -1 → J' 156 3 = -1))) zN := by
  refine tz_Ok.of hl (by decide +kernel) rfl (tb_c1 rfl) (Nat.le_of_ble_eq_true rfl) ?_
  show tz_At l G M_X7_leastFit (tb_rm 11 0 0) none (tb_ZM G 0 0 (zQ n 0 (zqi (fun z J' => zOf (zbut [156, 157]) J' J ∧ (J 156 3 = -1 → J' 156 3 = -1)))) (zX n 0 zN)) 0 0 n J 0 [some (.ref 155), some (zi s), none] []
  refine tz_iconst (pc := 0) dX7_leastFit_0 ?_
  refine tz_istore_n (pc := 1) (L2 := [_, _, _]) dX7_leastFit_1 rfl (by decide) rfl ?_
  have loop2 : ∀ (f9 : Nat) (u : Int) (J1 : zJ), ((10 - u).toNat) < f9 → (1 ≤ u ∧ u ≤ 10) → (zOf (zbut [156, 157]) J1 J) → (J 156 3 = -1 → J1 156 3 = -1) → tz_At l G M_X7_leastFit (tb_rm 11 0 0) none (tb_ZM G 0 0 (zQ n 0 (zqi (fun z J' => zOf (zbut [156, 157]) J' J ∧ (J 156 3 = -1 → J' 156 3 = -1)))) (zX n 0 zN)) 0 0 n J1 2 [some (.ref 155), some (zi s), some (zi u)] [] := by
    intro f9
    induction f9 with
    | zero => intro u J1 hm9; exact absurd hm9 (Nat.not_lt_zero _)
    | succ f9 ih2 =>
      intro u J1 hm2 hu f1 k1
      refine tz_iload_n (pc := 2) dX7_leastFit_2 rfl rfl ?_
      refine tz_bipush (pc := 3) dX7_leastFit_3 (by decide) ?_
      refine tz_icmp_gt (pc := 5) (tgt := 25) dX7_leastFit_5 (by decide) (by omega) (by decide) (fun h_5 => ?_) (fun h_5 => ?_)
      · refine tz_iconst (pc := 25) dX7_leastFit_25 ?_
        exact tz_iret (pc := 26) (z := (-1)) dX7_leastFit_26 rfl (Nat.le_of_ble_eq_true rfl) (Nat.le_of_ble_eq_true rfl) ⟨Nat.le_refl _, Nat.le_add_right _ _⟩ ⟨_, rfl, (by decide), (by first | exact ⟨i2.tr f1, fun _ => i3⟩ | exact ⟨f1, k1⟩)⟩
      · refine tz_aload_n (pc := 8) dX7_leastFit_8 rfl rfl ?_
        refine tz_iload_n (pc := 9) dX7_leastFit_9 rfl rfl ?_
        refine tz_iload_n (pc := 10) dX7_leastFit_10 rfl rfl ?_
        refine tz_cV (pc := 11) (c_fitsBy hl n _ _ _ (by omega) (by omega) m (C.of (fun c hc => f1 c (by simp [zbut]; omega))) (by rw [f1 6 rfl]; exact hm) (by rw [f1 19 rfl]; exact hL)) vl_X7_53 dX7_leastFit_11 o_155 rfl rfl (Nat.le_of_ble_eq_true rfl) ⟨(Nat.le_of_ble_eq_true rfl), (Nat.le_of_ble_eq_true rfl)⟩ rfl rfl (Nat.le_of_ble_eq_true rfl) (Nat.le_of_ble_eq_true rfl) (fun r9 J_11 hq9 => ?_)
        obtain ⟨z_11, rfl, hz_11, i1, i2, i3⟩ := hq9
        refine tz_if_eq (pc := 14) (tgt := 19) dX7_leastFit_14 (by decide) (by omega) (fun h_14 => ?_) (fun h_14 => ?_)
        · refine tz_iinc (pc := 19) (z := u + 1) (L2 := [_, _, _]) dX7_leastFit_19 rfl (by omega) rfl ?_
          refine tz_goto (pc := 22) (tgt := 2) dX7_leastFit_22 (by decide) ?_
          exact ih2 (u + 1) _ (by omega) (by omega) (i2.tr f1) (fun _ => i3)
        · refine tz_iload_n (pc := 17) dX7_leastFit_17 rfl rfl ?_
          exact tz_iret (pc := 18) (z := u) dX7_leastFit_18 rfl (Nat.le_of_ble_eq_true rfl) (Nat.le_of_ble_eq_true rfl) ⟨Nat.le_refl _, Nat.le_add_right _ _⟩ ⟨_, rfl, (by omega), (by first | exact ⟨i2.tr f1, fun _ => i3⟩ | exact ⟨f1, k1⟩)⟩
  exact loop2 _ 1 _ (Nat.lt_succ_self _) (by omega) zOf.rf id

set_option maxHeartbeats 4000000 in
set_option maxRecDepth 100000 in
theorem c_leftOf {l : Launch} {G : tb_G} (hl : l.stackTraces = false) (n : Nat) (J : zJ) (i : Int) (hr_i : -2147483648 ≤ i ∧ i < 2147483648)  (hi : 0 ≤ i ∧ i < 8) : tz_Ok l G M_X7_leftOf 0 0 0 [.ref 155, zi i] n J (zqi (fun z J' => J = J' ∧ J 19 (15 + i) = z)) zN := by
  refine tz_Ok.of hl (by decide +kernel) rfl (tb_c1 rfl) (Nat.le_of_ble_eq_true rfl) ?_
  show tz_At l G M_X7_leftOf (tb_rm 0 0 0) none (tb_ZM G 0 0 (zQ n 0 (zqi (fun z J' => J = J' ∧ J 19 (15 + i) = z))) (zX n 0 zN)) 0 0 n J 0 [some (.ref 155), some (zi i)] []
  refine tz_aload_n (pc := 0) dX7_leftOf_0 rfl rfl ?_
  refine tz_fR (pc := 1) dX7_leftOf_1 fl_X7_9 r_155_0 ?_
  refine tz_fR (pc := 4) dX7_leftOf_4 fl_X7_56 r_5_1 ?_
  refine tz_fR (pc := 7) dX7_leftOf_7 fl_X7_60 r_18_0 ?_
  refine tz_bipush (pc := 10) dX7_leftOf_10 (by decide) ?_
  refine tz_iload_n (pc := 12) dX7_leftOf_12 rfl rfl ?_
  refine tz_iadd (pc := 13) (v := 15 + i) dX7_leftOf_13 rfl ?_
  refine tz_aL (pc := 14) (z := (15 + i)) (v := (J 19 (15 + i))) dX7_leftOf_14 a_19 rfl (by omega) rfl (fun r_14 => ?_)
  exact tz_iret (pc := 15) (z := (J 19 (15 + i))) dX7_leftOf_15 rfl (Nat.le_of_ble_eq_true rfl) (Nat.le_of_ble_eq_true rfl) ⟨Nat.le_refl _, Nat.le_add_right _ _⟩ ⟨_, rfl, (by omega), ⟨rfl, rfl⟩⟩

set_option maxHeartbeats 4000000 in
set_option maxRecDepth 100000 in
theorem c_meet {l : Launch} {G : tb_G} (hl : l.stackTraces = false) (n : Nat) (J : zJ) (i : Int) (p : Int) (j : Int) (hr_i : -2147483648 ≤ i ∧ i < 2147483648) (hr_p : -2147483648 ≤ p ∧ p < 2147483648) (hr_j : -2147483648 ≤ j ∧ j < 2147483648) (m : Int) (C : CT J m) (hL : LI (J 19) m) (hi : 0 ≤ i ∧ i < J 19 4) (hj : 0 ≤ j ∧ j < J 19 4) (hp : 0 ≤ p ∧ p < J 10 (J 19 (15 + i))) (hR : RU J) (h9 : J 145 10 < 2000000000) : tz_Ok l G M_X7_meet 5 0 0 [.ref 155, zi i, zi p, zi j] n J (zqi (fun z J' => (z = 0 ∨ z = 1) ∧ RU J' ∧ (J 145 10 ≤ J' 145 10 ∧ J' 145 10 ≤ J 145 10 + 1) ∧  zOf (zbut [145, 146, 147, 148, 149, 150, 151, 152, 153, 154]) J' J)) zN := by
  refine tz_Ok.of hl (by decide +kernel) rfl (tb_c1 rfl) (Nat.le_of_ble_eq_true rfl) ?_
  show tz_At l G M_X7_meet (tb_rm 5 0 0) none (tb_ZM G 0 0 (zQ n 0 (zqi (fun z J' => (z = 0 ∨ z = 1) ∧ RU J' ∧ (J 145 10 ≤ J' 145 10 ∧ J' 145 10 ≤ J 145 10 + 1) ∧  zOf (zbut [145, 146, 147, 148, 149, 150, 151, 152, 153, 154]) J' J))) (zX n 0 zN)) 0 0 n J 0 [some (.ref 155), some (zi i), some (zi p), some (zi j), none] []
  have hb := C.told
  have h4 := hL.1.2.1
  have hli := (hL.2.2.1 i hi.1 hi.2).1
  have hlj := (hL.2.2.1 j hj.1 hj.2).1
  refine tz_iload_n (pc := 0) dX7_meet_0 rfl rfl ?_
  refine tz_iload_n (pc := 1) dX7_meet_1 rfl rfl ?_
  refine tz_icmp_ne (pc := 2) (tgt := 11) dX7_meet_2 (by decide) (by omega) (by omega) (fun h_2 => ?_) (fun h_2 => ?_)
  · refine tz_aload_n (pc := 11) dX7_meet_11 rfl rfl ?_
    refine tz_fR (pc := 12) dX7_meet_12 fl_X7_21 r_155_1 ?_
    refine tz_aload_n (pc := 15) dX7_meet_15 rfl rfl ?_
    refine tz_iload_n (pc := 16) dX7_meet_16 rfl rfl ?_
    refine tz_cV (pc := 17) (c_leftOf hl n _ _ (by omega) (by omega)) vl_X7_75 dX7_meet_17 o_155 rfl rfl (Nat.le_of_ble_eq_true rfl) ⟨(Nat.le_of_ble_eq_true rfl), (Nat.le_of_ble_eq_true rfl)⟩ rfl rfl (Nat.le_of_ble_eq_true rfl) (Nat.le_of_ble_eq_true rfl) (fun r9 J_17 hq9 => ?_)
    obtain ⟨z_17, rfl, hz_17, rfl, rfl⟩ := hq9
    refine tz_iload_n (pc := 20) dX7_meet_20 rfl rfl ?_
    refine tz_cV (pc := 21) (c_inPlace hl n _ _ _ (by omega) (by omega) m C (by omega) (by omega)) vl_X7_83 dX7_meet_21 o_6 rfl rfl (Nat.le_of_ble_eq_true rfl) ⟨(Nat.le_of_ble_eq_true rfl), (Nat.le_of_ble_eq_true rfl)⟩ rfl rfl (Nat.le_of_ble_eq_true rfl) (Nat.le_of_ble_eq_true rfl) (fun r9 J_21 hq9 => ?_)
    obtain ⟨z_21, rfl, hz_21, rfl, hz1⟩ := hq9
    refine tz_istore (pc := 24) (L2 := [_, _, _, _, _]) dX7_meet_24 (by decide) rfl ?_
    refine tz_aload_n (pc := 26) dX7_meet_26 rfl rfl ?_
    refine tz_fR (pc := 27) dX7_meet_27 fl_X7_21 r_155_1 ?_
    refine tz_iload (pc := 30) dX7_meet_30 rfl ?_
    refine tz_cV (pc := 32) (c_isVar hl n _ _ (by omega) (by omega)) vl_X7_46 dX7_meet_32 o_6 rfl rfl (Nat.le_of_ble_eq_true rfl) ⟨(Nat.le_of_ble_eq_true rfl), (Nat.le_of_ble_eq_true rfl)⟩ rfl rfl (Nat.le_of_ble_eq_true rfl) (Nat.le_of_ble_eq_true rfl) (fun r9 J_32 hq9 => ?_)
    obtain ⟨z_32, rfl, hz_32, rfl, rfl⟩ := hq9
    by_cases hw_35 : J 7 z_21 < 0
    · rw [show (if J 7 z_21 < 0 then 1 else 0 : Int) = 1 from if_pos hw_35]
      refine tz_if_neT (pc := 35) (tgt := 63) (by decide) dX7_meet_35 (by decide) (by decide) ?_
      refine tz_iconst (pc := 63) dX7_meet_63 ?_
      exact tz_zret (pc := 64) (z := 0) dX7_meet_64 rfl (Or.inl rfl) (Nat.le_of_ble_eq_true rfl) (Nat.le_of_ble_eq_true rfl) ⟨Nat.le_refl _, Nat.le_add_right _ _⟩ ⟨_, rfl, (by decide), (by first | exact ⟨Or.inl rfl, hR, by omega, zOf.rf⟩ | exact ⟨by omega, w2.rest (by have := hR.1; omega), by omega, w4⟩)⟩
    · rw [show (if J 7 z_21 < 0 then 1 else 0 : Int) = 0 from if_neg hw_35]
      refine tz_if_neF (pc := 35) (tgt := 63) (by decide) dX7_meet_35 (by decide) (by decide) ?_
      refine tz_aload_n (pc := 38) dX7_meet_38 rfl rfl ?_
      refine tz_fR (pc := 39) dX7_meet_39 fl_X7_26 r_155_3 ?_
      refine tz_iload (pc := 42) dX7_meet_42 rfl ?_
      refine tz_aload_n (pc := 44) dX7_meet_44 rfl rfl ?_
      refine tz_iload_n (pc := 45) dX7_meet_45 rfl rfl ?_
      refine tz_cV (pc := 46) (c_leftOf hl n _ _ (by omega) (by omega)) vl_X7_75 dX7_meet_46 o_155 rfl rfl (Nat.le_of_ble_eq_true rfl) ⟨(Nat.le_of_ble_eq_true rfl), (Nat.le_of_ble_eq_true rfl)⟩ rfl rfl (Nat.le_of_ble_eq_true rfl) (Nat.le_of_ble_eq_true rfl) (fun r9 J_46 hq9 => ?_)
      obtain ⟨z_46, rfl, hz_46, rfl, rfl⟩ := hq9
      refine tz_sipush (pc := 49) dX7_meet_49 (by decide) ?_
      refine tz_cV (pc := 52) (c_wayOf hl n _ _ _ _ (by omega) (by omega) (by omega) m C (by omega) (by omega) (Or.inr rfl) hR h9) vl_X7_89 dX7_meet_52 o_145 rfl rfl (Nat.le_of_ble_eq_true rfl) ⟨(Nat.le_of_ble_eq_true rfl), (Nat.le_of_ble_eq_true rfl)⟩ rfl rfl (Nat.le_of_ble_eq_true rfl) (Nat.le_of_ble_eq_true rfl) (fun r9 J_52 hq9 => ?_)
      obtain ⟨z_52, rfl, hz_52, w1, w2, w3, w4⟩ := hq9
      refine tz_iconst (pc := 55) dX7_meet_55 ?_
      refine tz_icmp_ne (pc := 56) (tgt := 63) dX7_meet_56 (by decide) (by omega) (by decide) (fun h_56 => ?_) (fun h_56 => ?_)
      · refine tz_iconst (pc := 63) dX7_meet_63 ?_
        exact tz_zret (pc := 64) (z := 0) dX7_meet_64 rfl (Or.inl rfl) (Nat.le_of_ble_eq_true rfl) (Nat.le_of_ble_eq_true rfl) ⟨Nat.le_refl _, Nat.le_add_right _ _⟩ ⟨_, rfl, (by decide), (by first | exact ⟨Or.inl rfl, hR, by omega, zOf.rf⟩ | exact ⟨by omega, w2.rest (by have := hR.1; omega), by omega, w4⟩)⟩
      · refine tz_iconst (pc := 59) dX7_meet_59 ?_
        refine tz_goto (pc := 60) (tgt := 64) dX7_meet_60 (by decide) ?_
        exact tz_zret (pc := 64) (z := 1) dX7_meet_64 rfl (Or.inr rfl) (Nat.le_of_ble_eq_true rfl) (Nat.le_of_ble_eq_true rfl) ⟨Nat.le_refl _, Nat.le_add_right _ _⟩ ⟨_, rfl, (by decide), (by first | exact ⟨Or.inl rfl, hR, by omega, zOf.rf⟩ | exact ⟨by omega, w2.rest (by have := hR.1; omega), by omega, w4⟩)⟩
  · refine tz_iload_n (pc := 5) dX7_meet_5 rfl rfl ?_
    refine tz_if_ne (pc := 6) (tgt := 11) dX7_meet_6 (by decide) (by omega) (fun h_6 => ?_) (fun h_6 => ?_)
    · refine tz_aload_n (pc := 11) dX7_meet_11 rfl rfl ?_
      refine tz_fR (pc := 12) dX7_meet_12 fl_X7_21 r_155_1 ?_
      refine tz_aload_n (pc := 15) dX7_meet_15 rfl rfl ?_
      refine tz_iload_n (pc := 16) dX7_meet_16 rfl rfl ?_
      refine tz_cV (pc := 17) (c_leftOf hl n _ _ (by omega) (by omega)) vl_X7_75 dX7_meet_17 o_155 rfl rfl (Nat.le_of_ble_eq_true rfl) ⟨(Nat.le_of_ble_eq_true rfl), (Nat.le_of_ble_eq_true rfl)⟩ rfl rfl (Nat.le_of_ble_eq_true rfl) (Nat.le_of_ble_eq_true rfl) (fun r9 J_17 hq9 => ?_)
      obtain ⟨z_17, rfl, hz_17, rfl, rfl⟩ := hq9
      refine tz_iload_n (pc := 20) dX7_meet_20 rfl rfl ?_
      refine tz_cV (pc := 21) (c_inPlace hl n _ _ _ (by omega) (by omega) m C (by omega) (by omega)) vl_X7_83 dX7_meet_21 o_6 rfl rfl (Nat.le_of_ble_eq_true rfl) ⟨(Nat.le_of_ble_eq_true rfl), (Nat.le_of_ble_eq_true rfl)⟩ rfl rfl (Nat.le_of_ble_eq_true rfl) (Nat.le_of_ble_eq_true rfl) (fun r9 J_21 hq9 => ?_)
      obtain ⟨z_21, rfl, hz_21, rfl, hz1⟩ := hq9
      refine tz_istore (pc := 24) (L2 := [_, _, _, _, _]) dX7_meet_24 (by decide) rfl ?_
      refine tz_aload_n (pc := 26) dX7_meet_26 rfl rfl ?_
      refine tz_fR (pc := 27) dX7_meet_27 fl_X7_21 r_155_1 ?_
      refine tz_iload (pc := 30) dX7_meet_30 rfl ?_
      refine tz_cV (pc := 32) (c_isVar hl n _ _ (by omega) (by omega)) vl_X7_46 dX7_meet_32 o_6 rfl rfl (Nat.le_of_ble_eq_true rfl) ⟨(Nat.le_of_ble_eq_true rfl), (Nat.le_of_ble_eq_true rfl)⟩ rfl rfl (Nat.le_of_ble_eq_true rfl) (Nat.le_of_ble_eq_true rfl) (fun r9 J_32 hq9 => ?_)
      obtain ⟨z_32, rfl, hz_32, rfl, rfl⟩ := hq9
      by_cases hw_35 : J 7 z_21 < 0
      · rw [show (if J 7 z_21 < 0 then 1 else 0 : Int) = 1 from if_pos hw_35]
        refine tz_if_neT (pc := 35) (tgt := 63) (by decide) dX7_meet_35 (by decide) (by decide) ?_
        refine tz_iconst (pc := 63) dX7_meet_63 ?_
        exact tz_zret (pc := 64) (z := 0) dX7_meet_64 rfl (Or.inl rfl) (Nat.le_of_ble_eq_true rfl) (Nat.le_of_ble_eq_true rfl) ⟨Nat.le_refl _, Nat.le_add_right _ _⟩ ⟨_, rfl, (by decide), (by first | exact ⟨Or.inl rfl, hR, by omega, zOf.rf⟩ | exact ⟨by omega, w2.rest (by have := hR.1; omega), by omega, w4⟩)⟩
      · rw [show (if J 7 z_21 < 0 then 1 else 0 : Int) = 0 from if_neg hw_35]
        refine tz_if_neF (pc := 35) (tgt := 63) (by decide) dX7_meet_35 (by decide) (by decide) ?_
        refine tz_aload_n (pc := 38) dX7_meet_38 rfl rfl ?_
        refine tz_fR (pc := 39) dX7_meet_39 fl_X7_26 r_155_3 ?_
        refine tz_iload (pc := 42) dX7_meet_42 rfl ?_
        refine tz_aload_n (pc := 44) dX7_meet_44 rfl rfl ?_
        refine tz_iload_n (pc := 45) dX7_meet_45 rfl rfl ?_
        refine tz_cV (pc := 46) (c_leftOf hl n _ _ (by omega) (by omega)) vl_X7_75 dX7_meet_46 o_155 rfl rfl (Nat.le_of_ble_eq_true rfl) ⟨(Nat.le_of_ble_eq_true rfl), (Nat.le_of_ble_eq_true rfl)⟩ rfl rfl (Nat.le_of_ble_eq_true rfl) (Nat.le_of_ble_eq_true rfl) (fun r9 J_46 hq9 => ?_)
        obtain ⟨z_46, rfl, hz_46, rfl, rfl⟩ := hq9
        refine tz_sipush (pc := 49) dX7_meet_49 (by decide) ?_
        refine tz_cV (pc := 52) (c_wayOf hl n _ _ _ _ (by omega) (by omega) (by omega) m C (by omega) (by omega) (Or.inr rfl) hR h9) vl_X7_89 dX7_meet_52 o_145 rfl rfl (Nat.le_of_ble_eq_true rfl) ⟨(Nat.le_of_ble_eq_true rfl), (Nat.le_of_ble_eq_true rfl)⟩ rfl rfl (Nat.le_of_ble_eq_true rfl) (Nat.le_of_ble_eq_true rfl) (fun r9 J_52 hq9 => ?_)
        obtain ⟨z_52, rfl, hz_52, w1, w2, w3, w4⟩ := hq9
        refine tz_iconst (pc := 55) dX7_meet_55 ?_
        refine tz_icmp_ne (pc := 56) (tgt := 63) dX7_meet_56 (by decide) (by omega) (by decide) (fun h_56 => ?_) (fun h_56 => ?_)
        · refine tz_iconst (pc := 63) dX7_meet_63 ?_
          exact tz_zret (pc := 64) (z := 0) dX7_meet_64 rfl (Or.inl rfl) (Nat.le_of_ble_eq_true rfl) (Nat.le_of_ble_eq_true rfl) ⟨Nat.le_refl _, Nat.le_add_right _ _⟩ ⟨_, rfl, (by decide), (by first | exact ⟨Or.inl rfl, hR, by omega, zOf.rf⟩ | exact ⟨by omega, w2.rest (by have := hR.1; omega), by omega, w4⟩)⟩
        · refine tz_iconst (pc := 59) dX7_meet_59 ?_
          refine tz_goto (pc := 60) (tgt := 64) dX7_meet_60 (by decide) ?_
          exact tz_zret (pc := 64) (z := 1) dX7_meet_64 rfl (Or.inr rfl) (Nat.le_of_ble_eq_true rfl) (Nat.le_of_ble_eq_true rfl) ⟨Nat.le_refl _, Nat.le_add_right _ _⟩ ⟨_, rfl, (by decide), (by first | exact ⟨Or.inl rfl, hR, by omega, zOf.rf⟩ | exact ⟨by omega, w2.rest (by have := hR.1; omega), by omega, w4⟩)⟩
    · refine tz_iconst (pc := 9) dX7_meet_9 ?_
      exact tz_zret (pc := 10) (z := 0) dX7_meet_10 rfl (Or.inl rfl) (Nat.le_of_ble_eq_true rfl) (Nat.le_of_ble_eq_true rfl) ⟨Nat.le_refl _, Nat.le_add_right _ _⟩ ⟨_, rfl, (by decide), (by first | exact ⟨Or.inl rfl, hR, by omega, zOf.rf⟩ | exact ⟨by omega, w2.rest (by have := hR.1; omega), by omega, w4⟩)⟩

set_option maxHeartbeats 4000000 in
set_option maxRecDepth 100000 in
theorem c_meetings {l : Launch} {G : tb_G} (hl : l.stackTraces = false) (n : Nat) (J : zJ)   (m : Int) (C : CT J m) (hL : LI (J 19) m) (hR : RU J) (h9 : J 145 10 < 1000000000) : tz_Ok l G M_X7_meetings 6 0 0 [.ref 155] n J (zqi (fun z J' => RU J' ∧ (J 145 10 ≤ J' 145 10 ∧ J' 145 10 ≤ J 145 10 + 24000) ∧  zOf (zbut [145, 146, 147, 148, 149, 150, 151, 152, 153, 154]) J' J)) zN := by
  refine tz_Ok.of hl (by decide +kernel) rfl (tb_c1 rfl) (Nat.le_of_ble_eq_true rfl) ?_
  show tz_At l G M_X7_meetings (tb_rm 6 0 0) none (tb_ZM G 0 0 (zQ n 0 (zqi (fun z J' => RU J' ∧ (J 145 10 ≤ J' 145 10 ∧ J' 145 10 ≤ J 145 10 + 24000) ∧  zOf (zbut [145, 146, 147, 148, 149, 150, 151, 152, 153, 154]) J' J))) (zX n 0 zN)) 0 0 n J 0 [some (.ref 155), none, none, none, none, none] []
  have hb := C.told
  have h4 := hL.1.2.1
  refine tz_iconst (pc := 0) dX7_meetings_0 ?_
  refine tz_istore_n (pc := 1) (L2 := [_, _, _, _, _, _]) dX7_meetings_1 rfl (by decide) rfl ?_
  refine tz_iconst (pc := 2) dX7_meetings_2 ?_
  refine tz_istore_n (pc := 3) (L2 := [_, _, _, _, _, _]) dX7_meetings_3 rfl (by decide) rfl ?_
  have loop4 : ∀ (f9 : Nat) (q1 : Int) (i : Int) (d3 : Option Value) (d4 : Option Value) (d5 : Option Value) (J1 : zJ), ((8 - i).toNat) < f9 → ((0 ≤ i ∧ i ≤ J 19 4) ∧ (0 ≤ q1 ∧ q1 ≤ i * 2912)) → (RU J1 ∧ (J 145 10 ≤ J1 145 10 ∧ J1 145 10 ≤ J 145 10 + i * 2912)) → (zOf (zbut [145, 146, 147, 148, 149, 150, 151, 152, 153, 154]) J1 J) → tz_At l G M_X7_meetings (tb_rm 6 0 0) none (tb_ZM G 0 0 (zQ n 0 (zqi (fun z J' => RU J' ∧ (J 145 10 ≤ J' 145 10 ∧ J' 145 10 ≤ J 145 10 + 24000) ∧  zOf (zbut [145, 146, 147, 148, 149, 150, 151, 152, 153, 154]) J' J))) (zX n 0 zN)) 0 0 n J1 4 [some (.ref 155), some (zi q1), some (zi i), d3, d4, d5] [] := by
    intro f9
    induction f9 with
    | zero => intro q1 i d3 d4 d5 J1 hm9; exact absurd hm9 (Nat.not_lt_zero _)
    | succ f9 ih4 =>
      intro q1 i d3 d4 d5 J1 hm4 hi u1 f1
      have e9 := hL.2.2.1 i
      have e19 := f1 19 rfl
      refine tz_iload_n (pc := 4) dX7_meetings_4 rfl rfl ?_
      refine tz_aload_n (pc := 5) dX7_meetings_5 rfl rfl ?_
      refine tz_fR (pc := 6) dX7_meetings_6 fl_X7_9 r_155_0 ?_
      refine tz_fR (pc := 9) dX7_meetings_9 fl_X7_56 r_5_1 ?_
      refine tz_fR (pc := 12) dX7_meetings_12 fl_X7_60 r_18_0 ?_
      refine tz_iconst (pc := 15) dX7_meetings_15 ?_
      refine tz_aL (pc := 16) (z := 4) (v := (J 19 4)) dX7_meetings_16 a_19 rfl (by decide) (Eq.trans (congrFun (f1 19 rfl) 4) rfl) (fun r_16 => ?_)
      refine tz_icmp_ge (pc := 17) (tgt := 101) dX7_meetings_17 (by decide) (by omega) (by omega) (fun h_17 => ?_) (fun h_17 => ?_)
      · refine tz_iload_n (pc := 101) dX7_meetings_101 rfl rfl ?_
        exact tz_iret (pc := 102) (z := q1) dX7_meetings_102 rfl (Nat.le_of_ble_eq_true rfl) (Nat.le_of_ble_eq_true rfl) ⟨Nat.le_refl _, Nat.le_add_right _ _⟩ ⟨_, rfl, (by omega), ⟨u1.1, by omega, f1⟩⟩
      · refine tz_aload_n (pc := 20) dX7_meetings_20 rfl rfl ?_
        refine tz_fR (pc := 21) dX7_meetings_21 fl_X7_21 r_155_1 ?_
        refine tz_fR (pc := 24) dX7_meetings_24 fl_X7_49 r_6_4 ?_
        refine tz_aload_n (pc := 27) dX7_meetings_27 rfl rfl ?_
        refine tz_iload_n (pc := 28) dX7_meetings_28 rfl rfl ?_
        refine tz_cV (pc := 29) (c_leftOf hl n _ _ (by omega) (by omega)) vl_X7_75 dX7_meetings_29 o_155 rfl rfl (Nat.le_of_ble_eq_true rfl) ⟨(Nat.le_of_ble_eq_true rfl), (Nat.le_of_ble_eq_true rfl)⟩ rfl rfl (Nat.le_of_ble_eq_true rfl) (Nat.le_of_ble_eq_true rfl) (fun r9 J_29 hq9 => ?_)
        obtain ⟨zl, rfl, hz_29, rfl, hl7⟩ := hq9
        rw [e19] at hl7
        obtain rfl : J 19 (15 + i) = zl := hl7
        have nz := C.nums (e9 (by omega) (by omega)).1.1 (e9 (by omega) (by omega)).1.2
        have e10 := congrFun (f1 10 rfl) (J 19 (15 + i))
        refine tz_aL (pc := 32) (z := (J 19 (15 + i))) (v := (J 10 (J 19 (15 + i)))) dX7_meetings_32 a_10 rfl (by omega) (Eq.trans (congrFun (f1 10 rfl) (J 19 (15 + i))) rfl) (fun r_32 => ?_)
        refine tz_istore_n (pc := 33) (L2 := [_, _, _, _, _, _]) dX7_meetings_33 rfl (by decide) rfl ?_
        refine tz_iconst (pc := 34) dX7_meetings_34 ?_
        refine tz_istore (pc := 35) (L2 := [_, _, _, _, _, _]) dX7_meetings_35 (by decide) rfl ?_
        have loop37 : ∀ (f9 : Nat) (q2 : Int) (p : Int) (e5 : Option Value) (J2 : zJ), ((364 - p).toNat) < f9 → ((0 ≤ p ∧ p ≤ J 10 (J 19 (15 + i))) ∧ (0 ≤ q2 ∧ q2 ≤ i * 2912 + p * 8)) → (RU J2 ∧ (J 145 10 ≤ J2 145 10 ∧ J2 145 10 ≤ J 145 10 + i * 2912 + p * 8)) → (zOf (zbut [145, 146, 147, 148, 149, 150, 151, 152, 153, 154]) J2 J) → tz_At l G M_X7_meetings (tb_rm 6 0 0) none (tb_ZM G 0 0 (zQ n 0 (zqi (fun z J' => RU J' ∧ (J 145 10 ≤ J' 145 10 ∧ J' 145 10 ≤ J 145 10 + 24000) ∧  zOf (zbut [145, 146, 147, 148, 149, 150, 151, 152, 153, 154]) J' J))) (zX n 0 zN)) 0 0 n J2 37 [some (.ref 155), some (zi q2), some (zi i), some (zi (J 10 (J 19 (15 + i)))), some (zi p), e5] [] := by
          intro f9
          induction f9 with
          | zero => intro q2 p e5 J2 hm9; exact absurd hm9 (Nat.not_lt_zero _)
          | succ f9 ih37 =>
            intro q2 p e5 J2 hm37 hp u2 f2
            refine tz_iload (pc := 37) dX7_meetings_37 rfl ?_
            refine tz_iload_n (pc := 39) dX7_meetings_39 rfl rfl ?_
            refine tz_icmp_ge (pc := 40) (tgt := 95) dX7_meetings_40 (by decide) (by omega) (by omega) (fun h_40 => ?_) (fun h_40 => ?_)
            · refine tz_iinc (pc := 95) (z := i + 1) (L2 := [_, _, _, _, _, _]) dX7_meetings_95 rfl (by omega) rfl ?_
              refine tz_goto (pc := 98) (tgt := 4) dX7_meetings_98 (by decide) ?_
              exact ih4 _ (i + 1) _ _ _ _ (by omega) (by omega) ⟨u2.1, by omega⟩ f2
            · refine tz_iconst (pc := 43) dX7_meetings_43 ?_
              refine tz_istore (pc := 44) (L2 := [_, _, _, _, _, _]) dX7_meetings_44 (by decide) rfl ?_
              have loop46 : ∀ (f9 : Nat) (q3 : Int) (j : Int) (J3 : zJ), ((8 - j).toNat) < f9 → ((0 ≤ j ∧ j ≤ J 19 4) ∧ (0 ≤ q3 ∧ q3 ≤ i * 2912 + p * 8 + j)) → (RU J3 ∧ (J 145 10 ≤ J3 145 10 ∧ J3 145 10 ≤ J 145 10 + i * 2912 + p * 8 + j)) → (zOf (zbut [145, 146, 147, 148, 149, 150, 151, 152, 153, 154]) J3 J) → tz_At l G M_X7_meetings (tb_rm 6 0 0) none (tb_ZM G 0 0 (zQ n 0 (zqi (fun z J' => RU J' ∧ (J 145 10 ≤ J' 145 10 ∧ J' 145 10 ≤ J 145 10 + 24000) ∧  zOf (zbut [145, 146, 147, 148, 149, 150, 151, 152, 153, 154]) J' J))) (zX n 0 zN)) 0 0 n J3 46 [some (.ref 155), some (zi q3), some (zi i), some (zi (J 10 (J 19 (15 + i)))), some (zi p), some (zi j)] [] := by
                intro f9
                induction f9 with
                | zero => intro q3 j J3 hm9; exact absurd hm9 (Nat.not_lt_zero _)
                | succ f9 ih46 =>
                  intro q3 j J3 hm46 hj u3 f3
                  refine tz_iload (pc := 46) dX7_meetings_46 rfl ?_
                  refine tz_aload_n (pc := 48) dX7_meetings_48 rfl rfl ?_
                  refine tz_fR (pc := 49) dX7_meetings_49 fl_X7_9 r_155_0 ?_
                  refine tz_fR (pc := 52) dX7_meetings_52 fl_X7_56 r_5_1 ?_
                  refine tz_fR (pc := 55) dX7_meetings_55 fl_X7_60 r_18_0 ?_
                  refine tz_iconst (pc := 58) dX7_meetings_58 ?_
                  refine tz_aL (pc := 59) (z := 4) (v := (J 19 4)) dX7_meetings_59 a_19 rfl (by decide) (Eq.trans (congrFun (f3 19 rfl) 4) rfl) (fun r_59 => ?_)
                  refine tz_icmp_ge (pc := 60) (tgt := 89) dX7_meetings_60 (by decide) (by omega) (by omega) (fun h_60 => ?_) (fun h_60 => ?_)
                  · refine tz_iinc (pc := 89) (z := p + 1) (L2 := [_, _, _, _, _, _]) dX7_meetings_89 rfl (by omega) rfl ?_
                    refine tz_goto (pc := 92) (tgt := 37) dX7_meetings_92 (by decide) ?_
                    exact ih37 _ (p + 1) _ _ (by omega) (by omega) ⟨u3.1, by omega⟩ f3
                  · refine tz_iload_n (pc := 63) dX7_meetings_63 rfl rfl ?_
                    refine tz_aload_n (pc := 64) dX7_meetings_64 rfl rfl ?_
                    refine tz_iload_n (pc := 65) dX7_meetings_65 rfl rfl ?_
                    refine tz_iload (pc := 66) dX7_meetings_66 rfl ?_
                    refine tz_iload (pc := 68) dX7_meetings_68 rfl ?_
                    refine tz_cV (pc := 70) (c_meet hl n _ _ _ _ (by omega) (by omega) (by omega) m (C.of (fun c hc => f3 c (by simp [zbut]; omega))) (by rw [f3 19 rfl]; exact hL) (by rw [f3 19 rfl]; omega) (by rw [f3 19 rfl]; omega) (by rw [f3 19 rfl, f3 10 rfl]; omega) u3.1 (by omega)) vl_X7_79 dX7_meetings_70 o_155 rfl rfl (Nat.le_of_ble_eq_true rfl) ⟨(Nat.le_of_ble_eq_true rfl), (Nat.le_of_ble_eq_true rfl)⟩ rfl rfl (Nat.le_of_ble_eq_true rfl) (Nat.le_of_ble_eq_true rfl) (fun r9 J_70 hq9 => ?_)
                    obtain ⟨z_70, rfl, hz_70, i1, i2, i3, i4⟩ := hq9
                    refine tz_if_eq (pc := 73) (tgt := 80) dX7_meetings_73 (by decide) (by omega) (fun h_73 => ?_) (fun h_73 => ?_)
                    · refine tz_iconst (pc := 80) dX7_meetings_80 ?_
                      refine tz_iadd (pc := 81) (v := q3 + 0) dX7_meetings_81 rfl ?_
                      refine tz_istore_n (pc := 82) (L2 := [_, _, _, _, _, _]) dX7_meetings_82 rfl (by decide) rfl ?_
                      refine tz_iinc (pc := 83) (z := j + 1) (L2 := [_, _, _, _, _, _]) dX7_meetings_83 rfl (by omega) rfl ?_
                      refine tz_goto (pc := 86) (tgt := 46) dX7_meetings_86 (by decide) ?_
                      exact ih46 _ (j + 1) _ (by omega) (by omega) ⟨i2, by omega⟩ (i4.tr f3)
                    · refine tz_iconst (pc := 76) dX7_meetings_76 ?_
                      refine tz_goto (pc := 77) (tgt := 81) dX7_meetings_77 (by decide) ?_
                      refine tz_iadd (pc := 81) (v := q3 + 1) dX7_meetings_81 rfl ?_
                      refine tz_istore_n (pc := 82) (L2 := [_, _, _, _, _, _]) dX7_meetings_82 rfl (by decide) rfl ?_
                      refine tz_iinc (pc := 83) (z := j + 1) (L2 := [_, _, _, _, _, _]) dX7_meetings_83 rfl (by omega) rfl ?_
                      refine tz_goto (pc := 86) (tgt := 46) dX7_meetings_86 (by decide) ?_
                      exact ih46 _ (j + 1) _ (by omega) (by omega) ⟨i2, by omega⟩ (i4.tr f3)
              exact loop46 _ _ 0 _ (Nat.lt_succ_self _) (by omega) ⟨u2.1, by omega⟩ f2
        exact loop37 _ _ 0 _ _ (Nat.lt_succ_self _) (by omega) ⟨u1.1, by omega⟩ f1
  exact loop4 _ 0 0 none none none _ (Nat.lt_succ_self _) (by omega) ⟨hR, by omega⟩ zOf.rf

set_option maxHeartbeats 4000000 in
set_option maxRecDepth 100000 in
theorem c_firstMeet {l : Launch} {G : tb_G} (hl : l.stackTraces = false) (n : Nat) (J : zJ)   (m : Int) (C : CT J m) (hL : LI (J 19) m) (hR : RU J) (h9 : J 145 10 < 1000000000) : tz_Ok l G M_X7_firstMeeting 6 0 0 [.ref 155] n J (zqi (fun z J' => RU J' ∧ (J 145 10 ≤ J' 145 10 ∧ J' 145 10 ≤ J 145 10 + 24000) ∧  zOf (zbut [145, 146, 147, 148, 149, 150, 151, 152, 153, 154]) J' J)) zN := by
  refine tz_Ok.of hl (by decide +kernel) rfl (tb_c1 rfl) (Nat.le_of_ble_eq_true rfl) ?_
  show tz_At l G M_X7_firstMeeting (tb_rm 6 0 0) none (tb_ZM G 0 0 (zQ n 0 (zqi (fun z J' => RU J' ∧ (J 145 10 ≤ J' 145 10 ∧ J' 145 10 ≤ J 145 10 + 24000) ∧  zOf (zbut [145, 146, 147, 148, 149, 150, 151, 152, 153, 154]) J' J))) (zX n 0 zN)) 0 0 n J 0 [some (.ref 155), none, none, none, none] []
  have hb := C.told
  have h4 := hL.1.2.1
  refine tz_iconst (pc := 0) dX7_firstMeeting_0 ?_
  refine tz_istore_n (pc := 1) (L2 := [_, _, _, _, _]) dX7_firstMeeting_1 rfl (by decide) rfl ?_
  have loop2 : ∀ (f9 : Nat) (i : Int) (d3 : Option Value) (d4 : Option Value) (d5 : Option Value) (J1 : zJ), ((8 - i).toNat) < f9 → ((0 ≤ i ∧ i ≤ J 19 4)) → (RU J1 ∧ (J 145 10 ≤ J1 145 10 ∧ J1 145 10 ≤ J 145 10 + i * 2912)) → (zOf (zbut [145, 146, 147, 148, 149, 150, 151, 152, 153, 154]) J1 J) → tz_At l G M_X7_firstMeeting (tb_rm 6 0 0) none (tb_ZM G 0 0 (zQ n 0 (zqi (fun z J' => RU J' ∧ (J 145 10 ≤ J' 145 10 ∧ J' 145 10 ≤ J 145 10 + 24000) ∧  zOf (zbut [145, 146, 147, 148, 149, 150, 151, 152, 153, 154]) J' J))) (zX n 0 zN)) 0 0 n J1 2 [some (.ref 155), some (zi i), d3, d4, d5] [] := by
    intro f9
    induction f9 with
    | zero => intro i d3 d4 d5 J1 hm9; exact absurd hm9 (Nat.not_lt_zero _)
    | succ f9 ih2 =>
      intro i d3 d4 d5 J1 hm2 hi u1 f1
      have e9 := hL.2.2.1 i
      have e19 := f1 19 rfl
      refine tz_iload_n (pc := 2) dX7_firstMeeting_2 rfl rfl ?_
      refine tz_aload_n (pc := 3) dX7_firstMeeting_3 rfl rfl ?_
      refine tz_fR (pc := 4) dX7_firstMeeting_4 fl_X7_9 r_155_0 ?_
      refine tz_fR (pc := 7) dX7_firstMeeting_7 fl_X7_56 r_5_1 ?_
      refine tz_fR (pc := 10) dX7_firstMeeting_10 fl_X7_60 r_18_0 ?_
      refine tz_iconst (pc := 13) dX7_firstMeeting_13 ?_
      refine tz_aL (pc := 14) (z := 4) (v := (J 19 4)) dX7_firstMeeting_14 a_19 rfl (by decide) (Eq.trans (congrFun (f1 19 rfl) 4) rfl) (fun r_14 => ?_)
      refine tz_icmp_ge (pc := 15) (tgt := 102) dX7_firstMeeting_15 (by decide) (by omega) (by omega) (fun h_15 => ?_) (fun h_15 => ?_)
      · refine tz_iconst (pc := 102) dX7_firstMeeting_102 ?_
        exact tz_iret (pc := 103) (z := (-1)) dX7_firstMeeting_103 rfl (Nat.le_of_ble_eq_true rfl) (Nat.le_of_ble_eq_true rfl) ⟨Nat.le_refl _, Nat.le_add_right _ _⟩ ⟨_, rfl, (by decide), (by first | exact ⟨i2, by omega, i4.tr f3⟩ | exact ⟨u1.1, by omega, f1⟩)⟩
      · refine tz_aload_n (pc := 18) dX7_firstMeeting_18 rfl rfl ?_
        refine tz_fR (pc := 19) dX7_firstMeeting_19 fl_X7_21 r_155_1 ?_
        refine tz_fR (pc := 22) dX7_firstMeeting_22 fl_X7_49 r_6_4 ?_
        refine tz_aload_n (pc := 25) dX7_firstMeeting_25 rfl rfl ?_
        refine tz_iload_n (pc := 26) dX7_firstMeeting_26 rfl rfl ?_
        refine tz_cV (pc := 27) (c_leftOf hl n _ _ (by omega) (by omega)) vl_X7_75 dX7_firstMeeting_27 o_155 rfl rfl (Nat.le_of_ble_eq_true rfl) ⟨(Nat.le_of_ble_eq_true rfl), (Nat.le_of_ble_eq_true rfl)⟩ rfl rfl (Nat.le_of_ble_eq_true rfl) (Nat.le_of_ble_eq_true rfl) (fun r9 J_27 hq9 => ?_)
        obtain ⟨zl, rfl, hz_27, rfl, hl7⟩ := hq9
        rw [e19] at hl7
        obtain rfl : J 19 (15 + i) = zl := hl7
        have nz := C.nums (e9 (by omega) (by omega)).1.1 (e9 (by omega) (by omega)).1.2
        have e10 := congrFun (f1 10 rfl) (J 19 (15 + i))
        refine tz_aL (pc := 30) (z := (J 19 (15 + i))) (v := (J 10 (J 19 (15 + i)))) dX7_firstMeeting_30 a_10 rfl (by omega) (Eq.trans (congrFun (f1 10 rfl) (J 19 (15 + i))) rfl) (fun r_30 => ?_)
        refine tz_istore_n (pc := 31) (L2 := [_, _, _, _, _]) dX7_firstMeeting_31 rfl (by decide) rfl ?_
        refine tz_iconst (pc := 32) dX7_firstMeeting_32 ?_
        refine tz_istore_n (pc := 33) (L2 := [_, _, _, _, _]) dX7_firstMeeting_33 rfl (by decide) rfl ?_
        have loop34 : ∀ (f9 : Nat) (p : Int) (e5 : Option Value) (J2 : zJ), ((364 - p).toNat) < f9 → ((0 ≤ p ∧ p ≤ J 10 (J 19 (15 + i)))) → (RU J2 ∧ (J 145 10 ≤ J2 145 10 ∧ J2 145 10 ≤ J 145 10 + i * 2912 + p * 8)) → (zOf (zbut [145, 146, 147, 148, 149, 150, 151, 152, 153, 154]) J2 J) → tz_At l G M_X7_firstMeeting (tb_rm 6 0 0) none (tb_ZM G 0 0 (zQ n 0 (zqi (fun z J' => RU J' ∧ (J 145 10 ≤ J' 145 10 ∧ J' 145 10 ≤ J 145 10 + 24000) ∧  zOf (zbut [145, 146, 147, 148, 149, 150, 151, 152, 153, 154]) J' J))) (zX n 0 zN)) 0 0 n J2 34 [some (.ref 155), some (zi i), some (zi (J 10 (J 19 (15 + i)))), some (zi p), e5] [] := by
          intro f9
          induction f9 with
          | zero => intro p e5 J2 hm9; exact absurd hm9 (Nat.not_lt_zero _)
          | succ f9 ih34 =>
            intro p e5 J2 hm34 hp u2 f2
            refine tz_iload_n (pc := 34) dX7_firstMeeting_34 rfl rfl ?_
            refine tz_iload_n (pc := 35) dX7_firstMeeting_35 rfl rfl ?_
            refine tz_icmp_ge (pc := 36) (tgt := 96) dX7_firstMeeting_36 (by decide) (by omega) (by omega) (fun h_36 => ?_) (fun h_36 => ?_)
            · refine tz_iinc (pc := 96) (z := i + 1) (L2 := [_, _, _, _, _]) dX7_firstMeeting_96 rfl (by omega) rfl ?_
              refine tz_goto (pc := 99) (tgt := 2) dX7_firstMeeting_99 (by decide) ?_
              exact ih2 (i + 1) _ _ _ _ (by omega) (by omega) ⟨u2.1, by omega⟩ f2
            · refine tz_iconst (pc := 39) dX7_firstMeeting_39 ?_
              refine tz_istore (pc := 40) (L2 := [_, _, _, _, _]) dX7_firstMeeting_40 (by decide) rfl ?_
              have loop42 : ∀ (f9 : Nat) (j : Int) (J3 : zJ), ((8 - j).toNat) < f9 → ((0 ≤ j ∧ j ≤ J 19 4)) → (RU J3 ∧ (J 145 10 ≤ J3 145 10 ∧ J3 145 10 ≤ J 145 10 + i * 2912 + p * 8 + j)) → (zOf (zbut [145, 146, 147, 148, 149, 150, 151, 152, 153, 154]) J3 J) → tz_At l G M_X7_firstMeeting (tb_rm 6 0 0) none (tb_ZM G 0 0 (zQ n 0 (zqi (fun z J' => RU J' ∧ (J 145 10 ≤ J' 145 10 ∧ J' 145 10 ≤ J 145 10 + 24000) ∧  zOf (zbut [145, 146, 147, 148, 149, 150, 151, 152, 153, 154]) J' J))) (zX n 0 zN)) 0 0 n J3 42 [some (.ref 155), some (zi i), some (zi (J 10 (J 19 (15 + i)))), some (zi p), some (zi j)] [] := by
                intro f9
                induction f9 with
                | zero => intro j J3 hm9; exact absurd hm9 (Nat.not_lt_zero _)
                | succ f9 ih42 =>
                  intro j J3 hm42 hj u3 f3
                  refine tz_iload (pc := 42) dX7_firstMeeting_42 rfl ?_
                  refine tz_aload_n (pc := 44) dX7_firstMeeting_44 rfl rfl ?_
                  refine tz_fR (pc := 45) dX7_firstMeeting_45 fl_X7_9 r_155_0 ?_
                  refine tz_fR (pc := 48) dX7_firstMeeting_48 fl_X7_56 r_5_1 ?_
                  refine tz_fR (pc := 51) dX7_firstMeeting_51 fl_X7_60 r_18_0 ?_
                  refine tz_iconst (pc := 54) dX7_firstMeeting_54 ?_
                  refine tz_aL (pc := 55) (z := 4) (v := (J 19 4)) dX7_firstMeeting_55 a_19 rfl (by decide) (Eq.trans (congrFun (f3 19 rfl) 4) rfl) (fun r_55 => ?_)
                  refine tz_icmp_ge (pc := 56) (tgt := 90) dX7_firstMeeting_56 (by decide) (by omega) (by omega) (fun h_56 => ?_) (fun h_56 => ?_)
                  · refine tz_iinc (pc := 90) (z := p + 1) (L2 := [_, _, _, _, _]) dX7_firstMeeting_90 rfl (by omega) rfl ?_
                    refine tz_goto (pc := 93) (tgt := 34) dX7_firstMeeting_93 (by decide) ?_
                    exact ih34 (p + 1) _ _ (by omega) (by omega) ⟨u3.1, by omega⟩ f3
                  · refine tz_aload_n (pc := 59) dX7_firstMeeting_59 rfl rfl ?_
                    refine tz_iload_n (pc := 60) dX7_firstMeeting_60 rfl rfl ?_
                    refine tz_iload_n (pc := 61) dX7_firstMeeting_61 rfl rfl ?_
                    refine tz_iload (pc := 62) dX7_firstMeeting_62 rfl ?_
                    refine tz_cV (pc := 64) (c_meet hl n _ _ _ _ (by omega) (by omega) (by omega) m (C.of (fun c hc => f3 c (by simp [zbut]; omega))) (by rw [f3 19 rfl]; exact hL) (by rw [f3 19 rfl]; omega) (by rw [f3 19 rfl]; omega) (by rw [f3 19 rfl, f3 10 rfl]; omega) u3.1 (by omega)) vl_X7_79 dX7_firstMeeting_64 o_155 rfl rfl (Nat.le_of_ble_eq_true rfl) ⟨(Nat.le_of_ble_eq_true rfl), (Nat.le_of_ble_eq_true rfl)⟩ rfl rfl (Nat.le_of_ble_eq_true rfl) (Nat.le_of_ble_eq_true rfl) (fun r9 J_64 hq9 => ?_)
                    obtain ⟨z_64, rfl, hz_64, i1, i2, i3, i4⟩ := hq9
                    refine tz_if_eq (pc := 67) (tgt := 84) dX7_firstMeeting_67 (by decide) (by omega) (fun h_67 => ?_) (fun h_67 => ?_)
                    · refine tz_iinc (pc := 84) (z := j + 1) (L2 := [_, _, _, _, _]) dX7_firstMeeting_84 rfl (by omega) rfl ?_
                      refine tz_goto (pc := 87) (tgt := 42) dX7_firstMeeting_87 (by decide) ?_
                      exact ih42 (j + 1) _ (by omega) (by omega) ⟨i2, by omega⟩ (i4.tr f3)
                    · refine tz_sipush (pc := 70) dX7_firstMeeting_70 (by decide) ?_
                      refine tz_iload_n (pc := 73) dX7_firstMeeting_73 rfl rfl ?_
                      refine tz_imul (pc := 74) (v := 1000 * i) dX7_firstMeeting_74 rfl ?_
                      refine tz_bipush (pc := 75) dX7_firstMeeting_75 (by decide) ?_
                      refine tz_iload_n (pc := 77) dX7_firstMeeting_77 rfl rfl ?_
                      refine tz_imul (pc := 78) (v := 10 * p) dX7_firstMeeting_78 rfl ?_
                      refine tz_iadd (pc := 79) (v := (1000 * i) + (10 * p)) dX7_firstMeeting_79 rfl ?_
                      refine tz_iload (pc := 80) dX7_firstMeeting_80 rfl ?_
                      refine tz_iadd (pc := 82) (v := ((1000 * i) + (10 * p)) + j) dX7_firstMeeting_82 rfl ?_
                      exact tz_iret (pc := 83) (z := (((1000 * i) + (10 * p)) + j)) dX7_firstMeeting_83 rfl (Nat.le_of_ble_eq_true rfl) (Nat.le_of_ble_eq_true rfl) ⟨Nat.le_refl _, Nat.le_add_right _ _⟩ ⟨_, rfl, (by omega), (by first | exact ⟨i2, by omega, i4.tr f3⟩ | exact ⟨u1.1, by omega, f1⟩)⟩
              exact loop42 _ 0 _ (Nat.lt_succ_self _) (by omega) ⟨u2.1, by omega⟩ f2
        exact loop34 _ 0 _ _ (Nat.lt_succ_self _) (by omega) ⟨u1.1, by omega⟩ f1
  exact loop2 _ 0 none none none _ (Nat.lt_succ_self _) (by omega) ⟨hR, by omega⟩ zOf.rf

set_option maxHeartbeats 4000000 in
set_option maxRecDepth 100000 in
theorem c_isFound {l : Launch} {G : tb_G} (hl : l.stackTraces = false) (n : Nat) (J : zJ) (x : Int) (t : Int) (u : Int) (hr_x : -2147483648 ≤ x ∧ x < 2147483648) (hr_t : -2147483648 ≤ t ∧ t < 2147483648) (hr_u : -2147483648 ≤ u ∧ u < 2147483648) (m : Int) (C : CT J m) (hx : 0 ≤ x ∧ x < m) (ht : 0 ≤ t ∧ t < m) (hR : RU J) (h9 : J 145 10 < 2000000000) : tz_Ok l G M_X7_isFound 8 0 0 [.ref 155, zi x, zi t, zi u] n J (zqi (fun z J' => (z = 0 ∨ z = 1) ∧ RU J' ∧ (J 145 10 ≤ J' 145 10 ∧ J' 145 10 ≤ J 145 10 + 1) ∧  zOf (zbut [140, 145, 146, 147, 148, 149, 150, 151, 152, 153, 154]) J' J)) zN := by
  refine tz_Ok.of hl (by decide +kernel) rfl (tb_c1 rfl) (Nat.le_of_ble_eq_true rfl) ?_
  show tz_At l G M_X7_isFound (tb_rm 8 0 0) none (tb_ZM G 0 0 (zQ n 0 (zqi (fun z J' => (z = 0 ∨ z = 1) ∧ RU J' ∧ (J 145 10 ≤ J' 145 10 ∧ J' 145 10 ≤ J 145 10 + 1) ∧  zOf (zbut [140, 145, 146, 147, 148, 149, 150, 151, 152, 153, 154]) J' J))) (zX n 0 zN)) 0 0 n J 0 [some (.ref 155), some (zi x), some (zi t), some (zi u)] []
  have hb := C.told
  refine tz_iload_n (pc := 0) dX7_isFound_0 rfl rfl ?_
  by_cases hs_1 : u < 0 ∨ 2 < u
  · refine tz_tabOut (pc := 1) (tgt := 70) dX7_isFound_1 (by omega) hs_1 (by decide) ?_
    refine tz_aload_n (pc := 70) dX7_isFound_70 rfl rfl ?_
    refine tz_fR (pc := 71) dX7_isFound_71 fl_X7_21 r_155_1 ?_
    refine tz_fR (pc := 74) dX7_isFound_74 fl_X7_101 r_6_8 ?_
    refine tz_iload_n (pc := 77) dX7_isFound_77 rfl rfl ?_
    refine tz_aL (pc := 78) (z := x) (v := (J 14 x)) dX7_isFound_78 a_14 rfl (by omega) rfl (fun r_78 => ?_)
    refine tz_aload_n (pc := 79) dX7_isFound_79 rfl rfl ?_
    refine tz_fR (pc := 80) dX7_isFound_80 fl_X7_21 r_155_1 ?_
    refine tz_fR (pc := 83) dX7_isFound_83 fl_X7_101 r_6_8 ?_
    refine tz_iload_n (pc := 86) dX7_isFound_86 rfl rfl ?_
    refine tz_aL (pc := 87) (z := t) (v := (J 14 t)) dX7_isFound_87 a_14 rfl (by omega) rfl (fun r_87 => ?_)
    refine tz_icmp_ne (pc := 88) (tgt := 95) dX7_isFound_88 (by decide) (by omega) (by omega) (fun h_88 => ?_) (fun h_88 => ?_)
    · refine tz_iconst (pc := 95) dX7_isFound_95 ?_
      exact tz_zret (pc := 96) (z := 0) dX7_isFound_96 rfl (Or.inl rfl) (Nat.le_of_ble_eq_true rfl) (Nat.le_of_ble_eq_true rfl) ⟨Nat.le_refl _, Nat.le_add_right _ _⟩ ⟨_, rfl, (by decide), (by first | exact ⟨a1, hR.of (a2 145 rfl) (a2 146 rfl), by rw [a2 145 rfl]; omega, a2.mono (fun c hc => by simp [zbut] at hc ⊢; omega)⟩ | exact ⟨by omega, w2.rest (by have := hR.1; omega), by omega, w4.mono (fun c hc => by simp [zbut] at hc ⊢; omega)⟩ | exact ⟨by omega, hR, by omega, zOf.rf⟩)⟩
    · refine tz_iconst (pc := 91) dX7_isFound_91 ?_
      refine tz_goto (pc := 92) (tgt := 96) dX7_isFound_92 (by decide) ?_
      exact tz_zret (pc := 96) (z := 1) dX7_isFound_96 rfl (Or.inr rfl) (Nat.le_of_ble_eq_true rfl) (Nat.le_of_ble_eq_true rfl) ⟨Nat.le_refl _, Nat.le_add_right _ _⟩ ⟨_, rfl, (by decide), (by first | exact ⟨a1, hR.of (a2 145 rfl) (a2 146 rfl), by rw [a2 145 rfl]; omega, a2.mono (fun c hc => by simp [zbut] at hc ⊢; omega)⟩ | exact ⟨by omega, w2.rest (by have := hR.1; omega), by omega, w4.mono (fun c hc => by simp [zbut] at hc ⊢; omega)⟩ | exact ⟨by omega, hR, by omega, zOf.rf⟩)⟩
  · have hs9 : u = 0 ∨ u = 1 ∨ u = 2 := by omega
    rcases hs9 with hc_1 | hc_1 | hc_1
    · refine tz_tabIn (pc := 1) (tgt := 28) 0 dX7_isFound_1 hc_1 (by decide) rfl (by decide) ?_
      refine tz_aload_n (pc := 28) dX7_isFound_28 rfl rfl ?_
      refine tz_fR (pc := 29) dX7_isFound_29 fl_X7_22 r_155_2 ?_
      refine tz_iload_n (pc := 32) dX7_isFound_32 rfl rfl ?_
      refine tz_iload_n (pc := 33) dX7_isFound_33 rfl rfl ?_
      refine tz_cV (pc := 34) (c_matches hl n _ _ _ (by omega) (by omega) m C hx ht) vl_X7_96 dX7_isFound_34 o_139 rfl rfl (Nat.le_of_ble_eq_true rfl) ⟨(Nat.le_of_ble_eq_true rfl), (Nat.le_of_ble_eq_true rfl)⟩ rfl rfl (Nat.le_of_ble_eq_true rfl) (Nat.le_of_ble_eq_true rfl) (fun r9 J_34 hq9 => ?_)
      obtain ⟨z_34, rfl, hz_34, a1, a2, -⟩ := hq9
      exact tz_zret (pc := 37) (z := z_34) dX7_isFound_37 rfl (by omega) (Nat.le_of_ble_eq_true rfl) (Nat.le_of_ble_eq_true rfl) ⟨Nat.le_refl _, Nat.le_add_right _ _⟩ ⟨_, rfl, (by omega), (by first | exact ⟨a1, hR.of (a2 145 rfl) (a2 146 rfl), by rw [a2 145 rfl]; omega, a2.mono (fun c hc => by simp [zbut] at hc ⊢; omega)⟩ | exact ⟨by omega, w2.rest (by have := hR.1; omega), by omega, w4.mono (fun c hc => by simp [zbut] at hc ⊢; omega)⟩ | exact ⟨by omega, hR, by omega, zOf.rf⟩)⟩
    · refine tz_tabIn (pc := 1) (tgt := 38) 1 dX7_isFound_1 hc_1 (by decide) rfl (by decide) ?_
      refine tz_aload_n (pc := 38) dX7_isFound_38 rfl rfl ?_
      refine tz_fR (pc := 39) dX7_isFound_39 fl_X7_22 r_155_2 ?_
      refine tz_iload_n (pc := 42) dX7_isFound_42 rfl rfl ?_
      refine tz_iload_n (pc := 43) dX7_isFound_43 rfl rfl ?_
      refine tz_cV (pc := 44) (c_matches hl n _ _ _ (by omega) (by omega) m C ht hx) vl_X7_96 dX7_isFound_44 o_139 rfl rfl (Nat.le_of_ble_eq_true rfl) ⟨(Nat.le_of_ble_eq_true rfl), (Nat.le_of_ble_eq_true rfl)⟩ rfl rfl (Nat.le_of_ble_eq_true rfl) (Nat.le_of_ble_eq_true rfl) (fun r9 J_44 hq9 => ?_)
      obtain ⟨z_44, rfl, hz_44, a1, a2, -⟩ := hq9
      exact tz_zret (pc := 47) (z := z_44) dX7_isFound_47 rfl (by omega) (Nat.le_of_ble_eq_true rfl) (Nat.le_of_ble_eq_true rfl) ⟨Nat.le_refl _, Nat.le_add_right _ _⟩ ⟨_, rfl, (by omega), (by first | exact ⟨a1, hR.of (a2 145 rfl) (a2 146 rfl), by rw [a2 145 rfl]; omega, a2.mono (fun c hc => by simp [zbut] at hc ⊢; omega)⟩ | exact ⟨by omega, w2.rest (by have := hR.1; omega), by omega, w4.mono (fun c hc => by simp [zbut] at hc ⊢; omega)⟩ | exact ⟨by omega, hR, by omega, zOf.rf⟩)⟩
    · refine tz_tabIn (pc := 1) (tgt := 48) 2 dX7_isFound_1 hc_1 (by decide) rfl (by decide) ?_
      refine tz_aload_n (pc := 48) dX7_isFound_48 rfl rfl ?_
      refine tz_fR (pc := 49) dX7_isFound_49 fl_X7_26 r_155_3 ?_
      refine tz_iload_n (pc := 52) dX7_isFound_52 rfl rfl ?_
      refine tz_iload_n (pc := 53) dX7_isFound_53 rfl rfl ?_
      refine tz_sipush (pc := 54) dX7_isFound_54 (by decide) ?_
      refine tz_cV (pc := 57) (c_wayOf hl n _ _ _ _ (by omega) (by omega) (by omega) m C hx ht (Or.inr rfl) hR h9) vl_X7_89 dX7_isFound_57 o_145 rfl rfl (Nat.le_of_ble_eq_true rfl) ⟨(Nat.le_of_ble_eq_true rfl), (Nat.le_of_ble_eq_true rfl)⟩ rfl rfl (Nat.le_of_ble_eq_true rfl) (Nat.le_of_ble_eq_true rfl) (fun r9 J_57 hq9 => ?_)
      obtain ⟨z_57, rfl, hz_57, w1, w2, w3, w4⟩ := hq9
      refine tz_iconst (pc := 60) dX7_isFound_60 ?_
      refine tz_icmp_ne (pc := 61) (tgt := 68) dX7_isFound_61 (by decide) (by omega) (by decide) (fun h_61 => ?_) (fun h_61 => ?_)
      · refine tz_iconst (pc := 68) dX7_isFound_68 ?_
        exact tz_zret (pc := 69) (z := 0) dX7_isFound_69 rfl (Or.inl rfl) (Nat.le_of_ble_eq_true rfl) (Nat.le_of_ble_eq_true rfl) ⟨Nat.le_refl _, Nat.le_add_right _ _⟩ ⟨_, rfl, (by decide), (by first | exact ⟨a1, hR.of (a2 145 rfl) (a2 146 rfl), by rw [a2 145 rfl]; omega, a2.mono (fun c hc => by simp [zbut] at hc ⊢; omega)⟩ | exact ⟨by omega, w2.rest (by have := hR.1; omega), by omega, w4.mono (fun c hc => by simp [zbut] at hc ⊢; omega)⟩ | exact ⟨by omega, hR, by omega, zOf.rf⟩)⟩
      · refine tz_iconst (pc := 64) dX7_isFound_64 ?_
        refine tz_goto (pc := 65) (tgt := 69) dX7_isFound_65 (by decide) ?_
        exact tz_zret (pc := 69) (z := 1) dX7_isFound_69 rfl (Or.inr rfl) (Nat.le_of_ble_eq_true rfl) (Nat.le_of_ble_eq_true rfl) ⟨Nat.le_refl _, Nat.le_add_right _ _⟩ ⟨_, rfl, (by decide), (by first | exact ⟨a1, hR.of (a2 145 rfl) (a2 146 rfl), by rw [a2 145 rfl]; omega, a2.mono (fun c hc => by simp [zbut] at hc ⊢; omega)⟩ | exact ⟨by omega, w2.rest (by have := hR.1; omega), by omega, w4.mono (fun c hc => by simp [zbut] at hc ⊢; omega)⟩ | exact ⟨by omega, hR, by omega, zOf.rf⟩)⟩

set_option maxHeartbeats 4000000 in
set_option maxRecDepth 100000 in
theorem c_found {l : Launch} {G : tb_G} (hl : l.stackTraces = false) (n : Nat) (J : zJ) (t : Int) (u : Int) (hr_t : -2147483648 ≤ t ∧ t < 2147483648) (hr_u : -2147483648 ≤ u ∧ u < 2147483648) (m : Int) (C : CT J m) (hL : LI (J 19) m) (ht : 0 ≤ t ∧ t < m) (hR : RU J) (h9 : J 145 10 < 1000000000) : tz_Ok l G M_X7_found 9 0 0 [.ref 155, zi t, zi u] n J (zqi (fun z J' => RU J' ∧ (J 145 10 ≤ J' 145 10 ∧ J' 145 10 ≤ J 145 10 + 12) ∧  zOf (zbut [140, 145, 146, 147, 148, 149, 150, 151, 152, 153, 154]) J' J)) zN := by
  refine tz_Ok.of hl (by decide +kernel) rfl (tb_c1 rfl) (Nat.le_of_ble_eq_true rfl) ?_
  show tz_At l G M_X7_found (tb_rm 9 0 0) none (tb_ZM G 0 0 (zQ n 0 (zqi (fun z J' => RU J' ∧ (J 145 10 ≤ J' 145 10 ∧ J' 145 10 ≤ J 145 10 + 12) ∧  zOf (zbut [140, 145, 146, 147, 148, 149, 150, 151, 152, 153, 154]) J' J))) (zX n 0 zN)) 0 0 n J 0 [some (.ref 155), some (zi t), some (zi u), none, none, none] []
  have hb := C.told
  have h5 := hL.1.2.2.1
  refine tz_aload_n (pc := 0) dX7_found_0 rfl rfl ?_
  refine tz_fR (pc := 1) dX7_found_1 fl_X7_9 r_155_0 ?_
  refine tz_fR (pc := 4) dX7_found_4 fl_X7_56 r_5_1 ?_
  refine tz_fR (pc := 7) dX7_found_7 fl_X7_60 r_18_0 ?_
  refine tz_astore_n (pc := 10) (L2 := [_, _, _, _, _, _]) dX7_found_10 rfl (by decide) rfl ?_
  refine tz_iconst (pc := 11) dX7_found_11 ?_
  refine tz_istore (pc := 12) (L2 := [_, _, _, _, _, _]) dX7_found_12 (by decide) rfl ?_
  refine tz_iconst (pc := 14) dX7_found_14 ?_
  refine tz_istore (pc := 15) (L2 := [_, _, _, _, _, _]) dX7_found_15 (by decide) rfl ?_
  have loop17 : ∀ (f9 : Nat) (q : Int) (i : Int) (J1 : zJ), ((12 - i).toNat) < f9 → ((0 ≤ i ∧ i ≤ J 19 5) ∧ (-2147483648 ≤ q ∧ q < 2147483648)) → (RU J1 ∧ (J 145 10 ≤ J1 145 10 ∧ J1 145 10 ≤ J 145 10 + i)) → (zOf (zbut [140, 145, 146, 147, 148, 149, 150, 151, 152, 153, 154]) J1 J) → tz_At l G M_X7_found (tb_rm 9 0 0) none (tb_ZM G 0 0 (zQ n 0 (zqi (fun z J' => RU J' ∧ (J 145 10 ≤ J' 145 10 ∧ J' 145 10 ≤ J 145 10 + 12) ∧  zOf (zbut [140, 145, 146, 147, 148, 149, 150, 151, 152, 153, 154]) J' J))) (zX n 0 zN)) 0 0 n J1 17 [some (.ref 155), some (zi t), some (zi u), some (.ref 19), some (zi q), some (zi i)] [] := by
    intro f9
    induction f9 with
    | zero => intro q i J1 hm9; exact absurd hm9 (Nat.not_lt_zero _)
    | succ f9 ih17 =>
      intro q i J1 hm17 hi u1 f1
      have e9 := hL.2.2.2.1 i
      refine tz_iload (pc := 17) dX7_found_17 rfl ?_
      refine tz_aload_n (pc := 19) dX7_found_19 rfl rfl ?_
      refine tz_iconst (pc := 20) dX7_found_20 ?_
      refine tz_aL (pc := 21) (z := 5) (v := (J 19 5)) dX7_found_21 a_19 rfl (by decide) (Eq.trans (congrFun (f1 19 rfl) 5) rfl) (fun r_21 => ?_)
      refine tz_icmp_ge (pc := 22) (tgt := 56) dX7_found_22 (by decide) (by omega) (by omega) (fun h_22 => ?_) (fun h_22 => ?_)
      · refine tz_iload (pc := 56) dX7_found_56 rfl ?_
        exact tz_iret (pc := 58) (z := q) dX7_found_58 rfl (Nat.le_of_ble_eq_true rfl) (Nat.le_of_ble_eq_true rfl) ⟨Nat.le_refl _, Nat.le_add_right _ _⟩ ⟨_, rfl, (by omega), ⟨u1.1, by omega, f1⟩⟩
      · refine tz_aload_n (pc := 25) dX7_found_25 rfl rfl ?_
        refine tz_aload_n (pc := 26) dX7_found_26 rfl rfl ?_
        refine tz_bipush (pc := 27) dX7_found_27 (by decide) ?_
        refine tz_iload (pc := 29) dX7_found_29 rfl ?_
        refine tz_iadd (pc := 31) (v := 31 + i) dX7_found_31 rfl ?_
        refine tz_aL (pc := 32) (z := (31 + i)) (v := (J 19 (31 + i))) dX7_found_32 a_19 rfl (by omega) (Eq.trans (congrFun (f1 19 rfl) (31 + i)) rfl) (fun r_32 => ?_)
        refine tz_iload_n (pc := 33) dX7_found_33 rfl rfl ?_
        refine tz_iload_n (pc := 34) dX7_found_34 rfl rfl ?_
        refine tz_cV (pc := 35) (c_isFound hl n _ _ _ _ (by omega) (by omega) (by omega) m (C.of (fun c hc => f1 c (by simp [zbut]; omega))) (by omega) ht u1.1 (by omega)) vl_X7_93 dX7_found_35 o_155 rfl rfl (Nat.le_of_ble_eq_true rfl) ⟨(Nat.le_of_ble_eq_true rfl), (Nat.le_of_ble_eq_true rfl)⟩ rfl rfl (Nat.le_of_ble_eq_true rfl) (Nat.le_of_ble_eq_true rfl) (fun r9 J_35 hq9 => ?_)
        obtain ⟨z_35, rfl, hz_35, i1, i2, i3, i4⟩ := hq9
        refine tz_if_eq (pc := 38) (tgt := 50) dX7_found_38 (by decide) (by omega) (fun h_38 => ?_) (fun h_38 => ?_)
        · refine tz_iinc (pc := 50) (z := i + 1) (L2 := [_, _, _, _, _, _]) dX7_found_50 rfl (by omega) rfl ?_
          refine tz_goto (pc := 53) (tgt := 17) dX7_found_53 (by decide) ?_
          exact ih17 _ (i + 1) _ (by omega) (by omega) ⟨i2, by omega⟩ (i4.tr f1)
        · refine tz_iload (pc := 41) dX7_found_41 rfl ?_
          refine tz_iconst (pc := 43) dX7_found_43 ?_
          refine tz_iload (pc := 44) dX7_found_44 rfl ?_
          refine tz_ishl (pc := 46) (v := zshl 1 i) dX7_found_46 rfl ?_
          refine tz_ior (pc := 47) (v := zor q (zshl 1 i)) dX7_found_47 rfl ?_
          have r_47 := zor_rg q (zshl 1 i)
          refine tz_istore (pc := 48) (L2 := [_, _, _, _, _, _]) dX7_found_48 (by decide) rfl ?_
          refine tz_iinc (pc := 50) (z := i + 1) (L2 := [_, _, _, _, _, _]) dX7_found_50 rfl (by omega) rfl ?_
          refine tz_goto (pc := 53) (tgt := 17) dX7_found_53 (by decide) ?_
          exact ih17 _ (i + 1) _ (by omega) (by omega) ⟨i2, by omega⟩ (i4.tr f1)
  exact loop17 _ 0 0 _ (Nat.lt_succ_self _) (by omega) ⟨hR, by omega⟩ zOf.rf

set_option maxHeartbeats 4000000 in
set_option maxRecDepth 100000 in
theorem c_firstRule {l : Launch} {G : tb_G} (hl : l.stackTraces = false) (n : Nat) (J : zJ) (t : Int) (hr_t : -2147483648 ≤ t ∧ t < 2147483648) (m : Int) (C : CT J m) (hL : LI (J 19) m) (ht : 0 ≤ t ∧ t < m) : tz_Ok l G M_X7_firstRule 8 0 0 [.ref 18, .ref 139, zi t] n J (zqi (fun z J' => zOf (zbut [140]) J' J ∧ (z = -1 ∨ ((0 ≤ z ∧ z < J 19 4) ∧ gOK (J' 140) m)))) zN := by
  refine tz_Ok.of hl (by decide +kernel) rfl (tb_c1 rfl) (Nat.le_of_ble_eq_true rfl) ?_
  show tz_At l G M_X7_firstRule (tb_rm 8 0 0) none (tb_ZM G 0 0 (zQ n 0 (zqi (fun z J' => zOf (zbut [140]) J' J ∧ (z = -1 ∨ ((0 ≤ z ∧ z < J 19 4) ∧ gOK (J' 140) m))))) (zX n 0 zN)) 0 0 n J 0 [some (.ref 18), some (.ref 139), some (zi t), none] []
  have hb := C.told
  have h4 := hL.1.2.1
  refine tz_iconst (pc := 0) dX7_firstRule_0 ?_
  refine tz_istore_n (pc := 1) (L2 := [_, _, _, _]) dX7_firstRule_1 rfl (by decide) rfl ?_
  have loop2 : ∀ (f9 : Nat) (i : Int) (J1 : zJ), ((8 - i).toNat) < f9 → (0 ≤ i ∧ i ≤ J 19 4) → (zOf (zbut [140]) J1 J) → tz_At l G M_X7_firstRule (tb_rm 8 0 0) none (tb_ZM G 0 0 (zQ n 0 (zqi (fun z J' => zOf (zbut [140]) J' J ∧ (z = -1 ∨ ((0 ≤ z ∧ z < J 19 4) ∧ gOK (J' 140) m))))) (zX n 0 zN)) 0 0 n J1 2 [some (.ref 18), some (.ref 139), some (zi t), some (zi i)] [] := by
    intro f9
    induction f9 with
    | zero => intro i J1 hm9; exact absurd hm9 (Nat.not_lt_zero _)
    | succ f9 ih2 =>
      intro i J1 hm2 hi f1
      have e9 := hL.2.2.1 i
      refine tz_iload_n (pc := 2) dX7_firstRule_2 rfl rfl ?_
      refine tz_aload_n (pc := 3) dX7_firstRule_3 rfl rfl ?_
      refine tz_fR (pc := 4) dX7_firstRule_4 fl_X7_60 r_18_0 ?_
      refine tz_iconst (pc := 7) dX7_firstRule_7 ?_
      refine tz_aL (pc := 8) (z := 4) (v := (J 19 4)) dX7_firstRule_8 a_19 rfl (by decide) (Eq.trans (congrFun (f1 19 rfl) 4) rfl) (fun r_8 => ?_)
      refine tz_icmp_ge (pc := 9) (tgt := 37) dX7_firstRule_9 (by decide) (by omega) (by omega) (fun h_9 => ?_) (fun h_9 => ?_)
      · refine tz_iconst (pc := 37) dX7_firstRule_37 ?_
        exact tz_iret (pc := 38) (z := (-1)) dX7_firstRule_38 rfl (Nat.le_of_ble_eq_true rfl) (Nat.le_of_ble_eq_true rfl) ⟨Nat.le_refl _, Nat.le_add_right _ _⟩ ⟨_, rfl, (by decide), (by first | exact ⟨a2.tr f1, Or.inr ⟨by omega, a3⟩⟩ | exact ⟨f1, Or.inl rfl⟩)⟩
      · refine tz_aload_n (pc := 12) dX7_firstRule_12 rfl rfl ?_
        refine tz_aload_n (pc := 13) dX7_firstRule_13 rfl rfl ?_
        refine tz_fR (pc := 14) dX7_firstRule_14 fl_X7_60 r_18_0 ?_
        refine tz_bipush (pc := 17) dX7_firstRule_17 (by decide) ?_
        refine tz_iload_n (pc := 19) dX7_firstRule_19 rfl rfl ?_
        refine tz_iadd (pc := 20) (v := 15 + i) dX7_firstRule_20 rfl ?_
        refine tz_aL (pc := 21) (z := (15 + i)) (v := (J 19 (15 + i))) dX7_firstRule_21 a_19 rfl (by omega) (Eq.trans (congrFun (f1 19 rfl) (15 + i)) rfl) (fun r_21 => ?_)
        refine tz_iload_n (pc := 22) dX7_firstRule_22 rfl rfl ?_
        refine tz_cV (pc := 23) (c_matches hl n _ _ _ (by omega) (by omega) m (C.of (fun c hc => f1 c (by simp [zbut]; omega))) (by omega) ht) vl_X7_96 dX7_firstRule_23 o_139 rfl rfl (Nat.le_of_ble_eq_true rfl) ⟨(Nat.le_of_ble_eq_true rfl), (Nat.le_of_ble_eq_true rfl)⟩ rfl rfl (Nat.le_of_ble_eq_true rfl) (Nat.le_of_ble_eq_true rfl) (fun r9 J_23 hq9 => ?_)
        obtain ⟨z_23, rfl, hz_23, a1, a2, a3⟩ := hq9
        refine tz_if_eq (pc := 26) (tgt := 31) dX7_firstRule_26 (by decide) (by omega) (fun h_26 => ?_) (fun h_26 => ?_)
        · refine tz_iinc (pc := 31) (z := i + 1) (L2 := [_, _, _, _]) dX7_firstRule_31 rfl (by omega) rfl ?_
          refine tz_goto (pc := 34) (tgt := 2) dX7_firstRule_34 (by decide) ?_
          exact ih2 (i + 1) _ (by omega) (by omega) (a2.tr f1)
        · refine tz_iload_n (pc := 29) dX7_firstRule_29 rfl rfl ?_
          exact tz_iret (pc := 30) (z := i) dX7_firstRule_30 rfl (Nat.le_of_ble_eq_true rfl) (Nat.le_of_ble_eq_true rfl) ⟨Nat.le_refl _, Nat.le_add_right _ _⟩ ⟨_, rfl, (by omega), (by first | exact ⟨a2.tr f1, Or.inr ⟨by omega, a3⟩⟩ | exact ⟨f1, Or.inl rfl⟩)⟩
  exact loop2 _ 0 _ (Nat.lt_succ_self _) (by omega) zOf.rf

set_option maxHeartbeats 4000000 in
set_option maxRecDepth 100000 in
theorem c_isReduced {l : Launch} {G : tb_G} (hl : l.stackTraces = false) (n : Nat) (J : zJ) (t : Int) (hr_t : -2147483648 ≤ t ∧ t < 2147483648) (m : Int) (C : CT J m) (hL : LI (J 19) m) (ht : 0 ≤ t ∧ t < m) : tz_Ok l G M_X7_isReduced 9 0 0 [.ref 155, zi t] n J (zqi (fun z J' => (z = 0 ∨ z = 1) ∧ zOf (zbut [17, 140]) J' J)) zN := by
  refine tz_Ok.of hl (by decide +kernel) rfl (tb_c1 rfl) (Nat.le_of_ble_eq_true rfl) ?_
  show tz_At l G M_X7_isReduced (tb_rm 9 0 0) none (tb_ZM G 0 0 (zQ n 0 (zqi (fun z J' => (z = 0 ∨ z = 1) ∧ zOf (zbut [17, 140]) J' J))) (zX n 0 zN)) 0 0 n J 0 [some (.ref 155), some (zi t), none] []
  have hb := C.told
  refine tz_aload_n (pc := 0) dX7_isReduced_0 rfl rfl ?_
  refine tz_fR (pc := 1) dX7_isReduced_1 fl_X7_21 r_155_1 ?_
  refine tz_iload_n (pc := 4) dX7_isReduced_4 rfl rfl ?_
  refine tz_cV (pc := 5) (c_mark hl n _ _ (by omega) m C ht) vl_X7_104 dX7_isReduced_5 o_6 rfl rfl (Nat.le_of_ble_eq_true rfl) ⟨(Nat.le_of_ble_eq_true rfl), (Nat.le_of_ble_eq_true rfl)⟩ rfl rfl (Nat.le_of_ble_eq_true rfl) (Nat.le_of_ble_eq_true rfl) (fun r9 J_5 hq9 => ?_)
  obtain ⟨rfl, k1, -⟩ := hq9
  refine tz_iconst (pc := 8) dX7_isReduced_8 ?_
  refine tz_istore_n (pc := 9) (L2 := [_, _, _]) dX7_isReduced_9 rfl (by decide) rfl ?_
  have loop10 : ∀ (f9 : Nat) (i : Int) (J1 : zJ), ((401 - i).toNat) < f9 → (0 ≤ i ∧ i ≤ t + 1) → (zOf (zbut [17, 140]) J1 J) → tz_At l G M_X7_isReduced (tb_rm 9 0 0) none (tb_ZM G 0 0 (zQ n 0 (zqi (fun z J' => (z = 0 ∨ z = 1) ∧ zOf (zbut [17, 140]) J' J))) (zX n 0 zN)) 0 0 n J1 10 [some (.ref 155), some (zi t), some (zi i)] [] := by
    intro f9
    induction f9 with
    | zero => intro i J1 hm9; exact absurd hm9 (Nat.not_lt_zero _)
    | succ f9 ih10 =>
      intro i J1 hm10 hi f1
      refine tz_iload_n (pc := 10) dX7_isReduced_10 rfl rfl ?_
      refine tz_iload_n (pc := 11) dX7_isReduced_11 rfl rfl ?_
      refine tz_icmp_gt (pc := 12) (tgt := 55) dX7_isReduced_12 (by decide) (by omega) (by omega) (fun h_12 => ?_) (fun h_12 => ?_)
      · refine tz_iconst (pc := 55) dX7_isReduced_55 ?_
        exact tz_zret (pc := 56) (z := 1) dX7_isReduced_56 rfl (Or.inr rfl) (Nat.le_of_ble_eq_true rfl) (Nat.le_of_ble_eq_true rfl) ⟨Nat.le_refl _, Nat.le_add_right _ _⟩ ⟨_, rfl, (by decide), (by first | exact ⟨Or.inl rfl, (a1.mono (fun c hc => by simp [zbut] at hc ⊢; omega)).tr f1⟩ | exact ⟨Or.inr rfl, f1⟩)⟩
      · refine tz_aload_n (pc := 15) dX7_isReduced_15 rfl rfl ?_
        refine tz_fR (pc := 16) dX7_isReduced_16 fl_X7_21 r_155_1 ?_
        refine tz_fR (pc := 19) dX7_isReduced_19 fl_X7_108 r_6_11 ?_
        refine tz_iload_n (pc := 22) dX7_isReduced_22 rfl rfl ?_
        refine tz_aL (pc := 23) (z := i) (v := (J1 17 i)) dX7_isReduced_23 a_17 rfl (by omega) rfl (fun r_23 => ?_)
        refine tz_iconst (pc := 24) dX7_isReduced_24 ?_
        refine tz_icmp_ne (pc := 25) (tgt := 49) dX7_isReduced_25 (by decide) (by omega) (by decide) (fun h_25 => ?_) (fun h_25 => ?_)
        · refine tz_iinc (pc := 49) (z := i + 1) (L2 := [_, _, _]) dX7_isReduced_49 rfl (by omega) rfl ?_
          refine tz_goto (pc := 52) (tgt := 10) dX7_isReduced_52 (by decide) ?_
          exact ih10 (i + 1) _ (by omega) (by omega) (by first | exact ((a1.mono (fun c hc => by simp [zbut] at hc ⊢; omega)).tr f1) | exact f1)
        · refine tz_aload_n (pc := 28) dX7_isReduced_28 rfl rfl ?_
          refine tz_fR (pc := 29) dX7_isReduced_29 fl_X7_9 r_155_0 ?_
          refine tz_fR (pc := 32) dX7_isReduced_32 fl_X7_56 r_5_1 ?_
          refine tz_aload_n (pc := 35) dX7_isReduced_35 rfl rfl ?_
          refine tz_fR (pc := 36) dX7_isReduced_36 fl_X7_22 r_155_2 ?_
          refine tz_iload_n (pc := 39) dX7_isReduced_39 rfl rfl ?_
          refine tz_cS (pc := 40) (c_firstRule hl n _ _ (by omega) m (C.of (fun c hc => f1 c (by simp [zbut]; omega))) (by rw [f1 19 rfl]; exact hL) (by omega)) sl_X7_111 dX7_isReduced_40 rfl rfl (Nat.le_of_ble_eq_true rfl) ⟨(Nat.le_of_ble_eq_true rfl), (Nat.le_of_ble_eq_true rfl)⟩ rfl rfl (Nat.le_of_ble_eq_true rfl) (Nat.le_of_ble_eq_true rfl) (fun r9 J_40 hq9 => ?_)
          obtain ⟨z_40, rfl, hz_40, a1, -⟩ := hq9
          refine tz_iconst (pc := 43) dX7_isReduced_43 ?_
          refine tz_icmp_eq (pc := 44) (tgt := 49) dX7_isReduced_44 (by decide) (by omega) (by decide) (fun h_44 => ?_) (fun h_44 => ?_)
          · refine tz_iinc (pc := 49) (z := i + 1) (L2 := [_, _, _]) dX7_isReduced_49 rfl (by omega) rfl ?_
            refine tz_goto (pc := 52) (tgt := 10) dX7_isReduced_52 (by decide) ?_
            exact ih10 (i + 1) _ (by omega) (by omega) (by first | exact ((a1.mono (fun c hc => by simp [zbut] at hc ⊢; omega)).tr f1) | exact f1)
          · refine tz_iconst (pc := 47) dX7_isReduced_47 ?_
            exact tz_zret (pc := 48) (z := 0) dX7_isReduced_48 rfl (Or.inl rfl) (Nat.le_of_ble_eq_true rfl) (Nat.le_of_ble_eq_true rfl) ⟨Nat.le_refl _, Nat.le_add_right _ _⟩ ⟨_, rfl, (by decide), (by first | exact ⟨Or.inl rfl, (a1.mono (fun c hc => by simp [zbut] at hc ⊢; omega)).tr f1⟩ | exact ⟨Or.inr rfl, f1⟩)⟩
  exact loop10 _ 0 _ (Nat.lt_succ_self _) (by omega) (k1.mono (fun c hc => by simp [zbut] at hc ⊢; omega))

end
section
def FR (J : zJ) (m : Int) : Prop := (0 ≤ J 158 7 ∧ J 158 7 ≤ 612) ∧ ∀ f, 0 ≤ f → f < J 158 7 → (0 ≤ J 159 f ∧ J 159 f < m) ∧ (0 ≤ J 160 f ∧ J 160 f ≤ 4) ∧ ∀ i, 0 ≤ i → i < J 160 f → i < J 8 (J 159 f) → J 161 (f * 3 + i) < m
def WR (J' J : zJ) (m m' : Int) : Prop := GX [19, 140, 158, 159, 160, 161] J' J m m' ∧ LI (J' 19) m' ∧ FR J' m'
theorem WR.rf {J : zJ} {m : Int} (C : CT J m) (hm : J 6 12 = m) (hL : LI (J 19) m) (hF : FR J m) : WR J J m m := ⟨GX.rf C hm, hL, hF⟩
theorem WR.tr {J3 J2 J1 : zJ} {m1 m2 m3 : Int} (g : WR J2 J1 m1 m2) (h : WR J3 J2 m2 m3) : WR J3 J1 m1 m3 := ⟨g.1.tr h.1, h.2⟩
theorem FR.of {J' J : zJ} {m m' : Int} (h : FR J m) (hm : m ≤ m') (e8 : ∀ t, 0 ≤ t → t < m → J' 8 t = J 8 t) (e5 : J' 158 7 = J 158 7) (e9 : J' 159 = J 159) (e0 : J' 160 = J 160) (e1 : J' 161 = J 161) : FR J' m' := by
  unfold FR
  rw [e5, e9, e0, e1]
  refine ⟨h.1, fun f a b => ?_⟩
  obtain ⟨h1, h2, h3⟩ := h.2 f a b
  refine ⟨by omega, h2, fun i p q r => ?_⟩
  rw [e8 _ h1.1 h1.2] at r
  have := h3 i p q r
  omega
theorem WR.made {J2 J1 J : zJ} {m m1 m2 : Int} (g : WR J1 J m m1) (h : GR J2 J1 m1 m2) : WR J2 J m m2 := ⟨g.1.tr h.x, by rw [h.2.2.2.2 19 rfl]; exact g.2.1.mono h.1, g.2.2.of h.1 (fun t a b => (h.2.2.2.1.1 t a b).2.1) (congrFun (h.2.2.2.2 158 rfl) 7) (h.2.2.2.2 159 rfl) (h.2.2.2.2 160 rfl) (h.2.2.2.2 161 rfl)⟩
/-- the ledger or the matcher's row alone -/
theorem WR.led {J2 J1 J : zJ} {m m1 : Int} (g : WR J1 J m m1) (f : zOf (zbut [19, 140]) J2 J1) (hL : LI (J2 19) m1) : WR J2 J m m1 := ⟨g.1.off rfl (f.mono (fun c hc => by simp [zbut] at hc ⊢; omega)), hL, g.2.2.of (Int.le_refl _) (fun t _ _ => congrFun (f 8 rfl) t) (congrFun (f 158 rfl) 7) (f 159 rfl) (f 160 rfl) (f 161 rfl)⟩
theorem WR.push {J1 J : zJ} {m m1 t : Int} (g : WR J1 J m m1) (ht : 0 ≤ t ∧ t < m1) (h9 : J1 158 7 < 612) : WR (zup (zup (zup J1 159 (J1 158 7) t) 160 (J1 158 7) 0) 158 7 (J1 158 7 + 1)) J m m1 := by
  refine ⟨g.1.off rfl (zOf.up rfl (zOf.up rfl (zOf.up rfl zOf.rf))), g.2.1, ?_⟩
  have e5 : zup (zup (zup J1 159 (J1 158 7) t) 160 (J1 158 7) 0) 158 7 (J1 158 7 + 1) 158 7 = J1 158 7 + 1 := zup_at
  have e9 : ∀ f, zup (zup (zup J1 159 (J1 158 7) t) 160 (J1 158 7) 0) 158 7 (J1 158 7 + 1) 159 f = if f = J1 158 7 then t else J1 159 f := fun f => rfl
  have e0 : ∀ f, zup (zup (zup J1 159 (J1 158 7) t) 160 (J1 158 7) 0) 158 7 (J1 158 7 + 1) 160 f = if f = J1 158 7 then 0 else J1 160 f := fun f => rfl
  have e1 : zup (zup (zup J1 159 (J1 158 7) t) 160 (J1 158 7) 0) 158 7 (J1 158 7 + 1) 161 = J1 161 := rfl
  have e8 : zup (zup (zup J1 159 (J1 158 7) t) 160 (J1 158 7) 0) 158 7 (J1 158 7 + 1) 8 = J1 8 := rfl
  have h0 := g.2.2.1
  unfold FR
  rw [e5, e1, e8]
  refine ⟨by omega, fun f a b => ?_⟩
  rw [e9, e0]
  by_cases e : f = J1 158 7
  · rw [if_pos e, if_pos e]
    exact ⟨ht, by omega, fun i p q => by omega⟩
  · rw [if_neg e, if_neg e]
    exact g.2.2.2 f a (by omega)
theorem FR.pop {J : zJ} {m f : Int} (h : FR J m) (hf : 0 ≤ f ∧ f < J 158 7) : FR (zup J 158 7 f) m := by
  have e5 : zup J 158 7 f 158 7 = f := zup_at
  have h0 := h.1
  unfold FR
  rw [e5]
  exact ⟨by omega, fun k a b => h.2 k a (by omega)⟩
theorem FR.part {J : zJ} {m f s v : Int} (h : FR J m) (hf : 0 ≤ f ∧ f < J 158 7) (hs : J 160 f = s) (h3 : s < 3) (hv : v < m) : FR (zup (zup J 161 (f * 3 + s) v) 160 f (s + 1)) m := by
  have e0 : ∀ k, zup (zup J 161 (f * 3 + s) v) 160 f (s + 1) 160 k = if k = f then s + 1 else J 160 k := fun k => rfl
  have e1 : ∀ k, zup (zup J 161 (f * 3 + s) v) 160 f (s + 1) 161 k = if k = f * 3 + s then v else J 161 k := fun k => rfl
  unfold FR
  refine ⟨h.1, fun k a b => ?_⟩
  rw [e0]
  obtain ⟨h1, h2, h4⟩ := h.2 k a b
  have e9 : zup (zup J 161 (f * 3 + s) v) 160 f (s + 1) 159 k = J 159 k := rfl
  have e8 : zup (zup J 161 (f * 3 + s) v) 160 f (s + 1) 8 = J 8 := rfl
  rw [e9, e8]
  by_cases e : k = f
  · rw [if_pos e]
    subst e
    refine ⟨h1, by omega, fun i p q r => ?_⟩
    rw [e1]
    split
    · exact hv
    · exact h4 i p (by omega) r
  · rw [if_neg e]
    refine ⟨h1, h2, fun i p q r => ?_⟩
    rw [e1]
    split
    · exact hv
    · exact h4 i p q r
theorem FR.step {J : zJ} {m f x : Int} (h : FR J m) (hf : 0 ≤ f ∧ f < J 158 7) (hs : J 8 (J 159 f) ≤ J 160 f) : FR (zup (zup J 158 8 x) 160 f 4) m := by
  have e0 : ∀ k, zup (zup J 158 8 x) 160 f 4 160 k = if k = f then 4 else J 160 k := fun k => rfl
  unfold FR
  refine ⟨h.1, fun k a b => ?_⟩
  obtain ⟨h1, h2, h4⟩ := h.2 k a b
  rw [e0]
  refine ⟨h1, by split <;> omega, fun i p q r => ?_⟩
  by_cases e : k = f
  · subst e
    exact h4 i p (Int.lt_of_lt_of_le r hs) r
  · rw [if_neg e] at q
    exact h4 i p q r
theorem zof_aM {J : zJ} {t a : Int} : zOf (zbut [19]) (zaM J t a) J := by
  unfold zaM
  split
  · exact zOf.up rfl (zOf.up rfl (zOf.up rfl zOf.rf))
  · exact zOf.rf
theorem zof_dM {J : zJ} {w : Int} : zOf (zbut [19]) (zdM J w) J := zOf.up rfl (fun c hc => by
  have : ¬ c = 19 := fun e => by rw [e] at hc; cases hc
  simp [zdm, this])
theorem zof_rM {J : zJ} {t a : Int} : zOf (zbut [19]) (zrM J t a) J := by
  unfold zrM
  split
  · exact zOf.rf
  · split
    · exact zof_aM.tr zof_dM
    · exact zof_aM
theorem WR.rec {J1 J J2 : zJ} {m m1 t z : Int} (g : WR J1 J m m1) (ht : 0 ≤ t ∧ t < m1) (h : (z = -1 ∧ J1 = J2 ∧ ∀ i, 0 ≤ i → i < J1 19 6 → ¬ J1 19 (43 + i) = t) ∨ ∃ i, (0 ≤ i ∧ i < J1 19 6 ∧ J1 19 (43 + i) = t) ∧ (∀ q, 0 ≤ q → q < i → ¬ J1 19 (43 + q) = t) ∧ J1 19 (52 + i) = z ∧ zaM (zdM (zup J1 19 2 (zw (J1 19 2 + 1))) i) t z = J2) : WR J2 J m m1 ∧ -1 ≤ z ∧ z < m1 := by
  rcases h with ⟨hz, rfl, -⟩ | ⟨i, h1, -, h3, rfl⟩
  · exact ⟨g, by omega⟩
  · have hz := (g.2.1.2.2.2.2 i h1.1 h1.2.1).2
    rw [h3] at hz
    refine ⟨g.led ((zof_aM.tr (zof_dM.tr (zOf.up rfl zOf.rf))).mono (fun c hc => by simp [zbut] at hc ⊢; omega)) ?_, by omega⟩
    exact (g.2.1.hits.dM (w := i) ⟨h1.1, h1.2.1⟩).aM ht hz
theorem gOK.r {J : zJ} {m : Int} (h : gOK (J 140) m) : rOK J 140 0 m := fun v a b => by rw [Int.zero_add]; exact h v a b
set_option maxHeartbeats 4000000 in
set_option maxRecDepth 100000 in
theorem c_opened {l : Launch} {G : tb_G} (hl : l.stackTraces = false) (n : Nat) (J : zJ) (t : Int) (hr_t : -2147483648 ≤ t ∧ t < 2147483648) (m : Int) (C : CT J m) (hm : J 6 12 = m) (hL : LI (J 19) m) (hF : FR J m) (ht : t = -3 ∨ (0 ≤ t ∧ t < m)) : tz_Ok l G M_X6_opened 2 0 0 [.ref 158, zi t] n J (zqi (fun z J' => WR J' J m m ∧ -3 ≤ z ∧ z < m)) zN := by
  refine tz_Ok.of hl (by decide +kernel) rfl (tb_c1 rfl) (Nat.le_of_ble_eq_true rfl) ?_
  show tz_At l G M_X6_opened (tb_rm 2 0 0) none (tb_ZM G 0 0 (zQ n 0 (zqi (fun z J' => WR J' J m m ∧ -3 ≤ z ∧ z < m))) (zX n 0 zN)) 0 0 n J 0 [some (.ref 158), some (zi t), none] []
  have hb := C.told
  have h7 := hF.1
  have h6 := hL.1.2.2.2
  refine tz_iload_n (pc := 0) dX6_opened_0 rfl rfl ?_
  refine tz_if_lt (pc := 1) (tgt := 15) dX6_opened_1 (by decide) (by omega) (fun h_1 => ?_) (fun h_1 => ?_)
  · refine tz_iload_n (pc := 15) dX6_opened_15 rfl rfl ?_
    exact tz_iret (pc := 16) (z := t) dX6_opened_16 rfl (Nat.le_of_ble_eq_true rfl) (Nat.le_of_ble_eq_true rfl) ⟨Nat.le_refl _, Nat.le_add_right _ _⟩ ⟨_, rfl, (by omega), ⟨(WR.rf C hm hL hF), by omega⟩⟩
  · refine tz_aload_n (pc := 4) dX6_opened_4 rfl rfl ?_
    refine tz_fR (pc := 5) dX6_opened_5 fl_X6_38 r_158_1 ?_
    refine tz_iload_n (pc := 8) dX6_opened_8 rfl rfl ?_
    refine tz_cV (pc := 9) (c_isVar hl n _ _ (by omega) (by omega)) vl_X6_59 dX6_opened_9 o_6 rfl rfl (Nat.le_of_ble_eq_true rfl) ⟨(Nat.le_of_ble_eq_true rfl), (Nat.le_of_ble_eq_true rfl)⟩ rfl rfl (Nat.le_of_ble_eq_true rfl) (Nat.le_of_ble_eq_true rfl) (fun r9 J_9 hq9 => ?_)
    obtain ⟨z_9, rfl, hz_9, rfl, rfl⟩ := hq9
    by_cases hw_12 : J 7 t < 0
    · rw [show (if J 7 t < 0 then 1 else 0 : Int) = 1 from if_pos hw_12]
      refine tz_if_eqF (pc := 12) (tgt := 17) (by decide) dX6_opened_12 (by decide) (by decide) ?_
      refine tz_iload_n (pc := 15) dX6_opened_15 rfl rfl ?_
      exact tz_iret (pc := 16) (z := t) dX6_opened_16 rfl (Nat.le_of_ble_eq_true rfl) (Nat.le_of_ble_eq_true rfl) ⟨Nat.le_refl _, Nat.le_add_right _ _⟩ ⟨_, rfl, (by omega), ⟨(WR.rf C hm hL hF), by omega⟩⟩
    · rw [show (if J 7 t < 0 then 1 else 0 : Int) = 0 from if_neg hw_12]
      refine tz_if_eqT (pc := 12) (tgt := 17) (by decide) dX6_opened_12 (by decide) (by decide) ?_
      refine tz_aload_n (pc := 17) dX6_opened_17 rfl rfl ?_
      refine tz_fR (pc := 18) dX6_opened_18 fl_X6_28 r_158_0 ?_
      refine tz_fR (pc := 21) dX6_opened_21 fl_X6_65 r_5_1 ?_
      refine tz_iload_n (pc := 24) dX6_opened_24 rfl rfl ?_
      refine tz_cV (pc := 25) (c_recalled hl n _ _ (by omega) (by omega)) vl_X6_69 dX6_opened_25 o_18 rfl rfl (Nat.le_of_ble_eq_true rfl) ⟨(Nat.le_of_ble_eq_true rfl), (Nat.le_of_ble_eq_true rfl)⟩ rfl rfl (Nat.le_of_ble_eq_true rfl) (Nat.le_of_ble_eq_true rfl) (fun r9 J_25 hq9 => ?_)
      obtain ⟨z_25, rfl, hz_25, p_25⟩ := hq9
      obtain ⟨g9, h9⟩ := WR.rec (WR.rf C hm hL hF) (by omega) p_25
      have hF9 := g9.2.2.1
      refine tz_istore_n (pc := 28) (L2 := [_, _, _]) dX6_opened_28 rfl (by decide) rfl ?_
      refine tz_iload_n (pc := 29) dX6_opened_29 rfl rfl ?_
      refine tz_iconst (pc := 30) dX6_opened_30 ?_
      refine tz_icmp_eq (pc := 31) (tgt := 36) dX6_opened_31 (by decide) (by omega) (by decide) (fun h_31 => ?_) (fun h_31 => ?_)
      · refine tz_aload_n (pc := 36) dX6_opened_36 rfl rfl ?_
        refine tz_fI (pc := 37) (kz := 7) (v := (J_25 158 7)) dX6_opened_37 fl_X6_21 i_158_7 rfl rfl (fun r_37 => ?_)
        refine tz_sipush (pc := 40) dX6_opened_40 (by decide) ?_
        refine tz_icmp_lt (pc := 43) (tgt := 49) dX6_opened_43 (by decide) (by omega) (by decide) (fun h_43 => ?_) (fun h_43 => ?_)
        · refine tz_aload_n (pc := 49) dX6_opened_49 rfl rfl ?_
          refine tz_fR (pc := 50) dX6_opened_50 fl_X6_11 r_158_4 ?_
          refine tz_aload_n (pc := 53) dX6_opened_53 rfl rfl ?_
          refine tz_fI (pc := 54) (kz := 7) (v := (J_25 158 7)) dX6_opened_54 fl_X6_21 i_158_7 rfl rfl (fun r_54 => ?_)
          refine tz_iload_n (pc := 57) dX6_opened_57 rfl rfl ?_
          refine tz_aS (pc := 58) (z := (J_25 158 7)) dX6_opened_58 a_159 rfl (by omega) (by omega) ?_
          refine tz_aload_n (pc := 59) dX6_opened_59 rfl rfl ?_
          refine tz_fR (pc := 60) dX6_opened_60 fl_X6_15 r_158_5 ?_
          refine tz_aload_n (pc := 63) dX6_opened_63 rfl rfl ?_
          refine tz_fI (pc := 64) (kz := 7) (v := (J_25 158 7)) dX6_opened_64 fl_X6_21 i_158_7 rfl rfl (fun r_64 => ?_)
          refine tz_iconst (pc := 67) dX6_opened_67 ?_
          refine tz_aS (pc := 68) (z := (J_25 158 7)) dX6_opened_68 a_160 rfl (by omega) (by decide) ?_
          refine tz_aload_n (pc := 69) dX6_opened_69 rfl rfl ?_
          refine tz_dup (pc := 70) dX6_opened_70 rfl ?_
          refine tz_fI (pc := 71) (kz := 7) (v := (J_25 158 7)) dX6_opened_71 fl_X6_21 i_158_7 rfl rfl (fun r_71 => ?_)
          refine tz_iconst (pc := 74) dX6_opened_74 ?_
          refine tz_iadd (pc := 75) (v := (J_25 158 7) + 1) dX6_opened_75 rfl ?_
          refine tz_pI (pc := 76) (kz := 7) dX6_opened_76 fl_X6_21 i_158_7 rfl rfl (by omega) ?_
          refine tz_iconst (pc := 79) dX6_opened_79 ?_
          exact tz_iret (pc := 80) (z := (-1)) dX6_opened_80 rfl (Nat.le_of_ble_eq_true rfl) (Nat.le_of_ble_eq_true rfl) ⟨Nat.le_refl _, Nat.le_add_right _ _⟩ ⟨_, rfl, (by decide), ⟨g9.push (by omega) (by omega), by omega⟩⟩
        · refine tz_bipush (pc := 46) dX6_opened_46 (by decide) ?_
          exact tz_iret (pc := 48) (z := (-2)) dX6_opened_48 rfl (Nat.le_of_ble_eq_true rfl) (Nat.le_of_ble_eq_true rfl) ⟨Nat.le_refl _, Nat.le_add_right _ _⟩ ⟨_, rfl, (by decide), ⟨g9, by omega⟩⟩
      · refine tz_iload_n (pc := 34) dX6_opened_34 rfl rfl ?_
        exact tz_iret (pc := 35) (z := z_25) dX6_opened_35 rfl (Nat.le_of_ble_eq_true rfl) (Nat.le_of_ble_eq_true rfl) ⟨Nat.le_refl _, Nat.le_add_right _ _⟩ ⟨_, rfl, (by omega), ⟨g9, by omega⟩⟩

set_option maxHeartbeats 4000000 in
set_option maxRecDepth 100000 in
theorem c_closedWith {l : Launch} {G : tb_G} (hl : l.stackTraces = false) (n : Nat) (J : zJ) (v : Int) (f : Int) (hr_v : -2147483648 ≤ v ∧ v < 2147483648) (hr_f : -2147483648 ≤ f ∧ f < 2147483648) (m : Int) (C : CT J m) (hm : J 6 12 = m) (hL : LI (J 19) m) (hF : FR J m) (hf : 0 ≤ f ∧ f < J 158 7) (hv : 0 ≤ v ∧ v < m) : tz_Ok l G M_X6_closedWith 2 0 0 [.ref 158, zi v, zi f] n J (zqi (fun z J' => WR J' J m m ∧ z = v)) zN := by
  refine tz_Ok.of hl (by decide +kernel) rfl (tb_c1 rfl) (Nat.le_of_ble_eq_true rfl) ?_
  show tz_At l G M_X6_closedWith (tb_rm 2 0 0) none (tb_ZM G 0 0 (zQ n 0 (zqi (fun z J' => WR J' J m m ∧ z = v))) (zX n 0 zN)) 0 0 n J 0 [some (.ref 158), some (zi v), some (zi f)] []
  have h7 := hF.1
  have ha := (hF.2 f hf.1 hf.2).1
  have h6 := hL.1
  refine tz_aload_n (pc := 0) dX6_closedWith_0 rfl rfl ?_
  refine tz_fR (pc := 1) dX6_closedWith_1 fl_X6_28 r_158_0 ?_
  refine tz_fR (pc := 4) dX6_closedWith_4 fl_X6_65 r_5_1 ?_
  refine tz_aload_n (pc := 7) dX6_closedWith_7 rfl rfl ?_
  refine tz_fR (pc := 8) dX6_closedWith_8 fl_X6_11 r_158_4 ?_
  refine tz_iload_n (pc := 11) dX6_closedWith_11 rfl rfl ?_
  refine tz_aL (pc := 12) (z := f) (v := (J 159 f)) dX6_closedWith_12 a_159 rfl (by omega) rfl (fun r_12 => ?_)
  refine tz_iload_n (pc := 13) dX6_closedWith_13 rfl rfl ?_
  refine tz_cV (pc := 14) (c_remember hl n _ _ _ (by omega) (by omega) (by omega) (by omega)) vl_X6_114 dX6_closedWith_14 o_18 rfl rfl (Nat.le_of_ble_eq_true rfl) ⟨(Nat.le_of_ble_eq_true rfl), (Nat.le_of_ble_eq_true rfl)⟩ rfl rfl (Nat.le_of_ble_eq_true rfl) (Nat.le_of_ble_eq_true rfl) (fun r9 J9 hq9 => ?_)
  obtain ⟨rfl, rfl⟩ := hq9
  refine tz_aload_n (pc := 17) dX6_closedWith_17 rfl rfl ?_
  refine tz_iload_n (pc := 18) dX6_closedWith_18 rfl rfl ?_
  refine tz_pI (pc := 19) (kz := 7) dX6_closedWith_19 fl_X6_21 i_158_7 rfl rfl (by omega) ?_
  refine tz_iload_n (pc := 22) dX6_closedWith_22 rfl rfl ?_
  exact tz_iret (pc := 23) (z := v) dX6_closedWith_23 rfl (Nat.le_of_ble_eq_true rfl) (Nat.le_of_ble_eq_true rfl) ⟨Nat.le_refl _, Nat.le_add_right _ _⟩ ⟨_, rfl, (by omega), ⟨⟨((GX.rf C hm).off rfl (zof_rM.mono (fun c hc => by simp [zbut] at hc ⊢; omega))).off rfl (zOf.up rfl zOf.rf), hL.rM ha hv, (hF.of (Int.le_refl _) (fun t _ _ => congrFun (zof_rM 8 rfl) t) (congrFun (zof_rM 158 rfl) 7) (zof_rM 159 rfl) (zof_rM 160 rfl) (zof_rM 161 rfl)).pop (by rw [congrFun (zof_rM 158 rfl) 7]; exact hf)⟩, rfl⟩⟩

set_option maxHeartbeats 4000000 in
set_option maxRecDepth 100000 in
theorem c_handed {l : Launch} {G : tb_G} (hl : l.stackTraces = false) (n : Nat) (J : zJ) (v : Int) (f : Int) (hr_v : -2147483648 ≤ v ∧ v < 2147483648) (hr_f : -2147483648 ≤ f ∧ f < 2147483648) (m : Int) (C : CT J m) (hm : J 6 12 = m) (hL : LI (J 19) m) (hF : FR J m) (hf : 0 ≤ f ∧ f < J 158 7) (hv : 0 ≤ v ∧ v < m) : tz_Ok l G M_X6_handed 3 0 0 [.ref 158, zi v, zi f] n J (zqi (fun z J' => WR J' J m m ∧ (z = -1 ∨ z = v))) zN := by
  refine tz_Ok.of hl (by decide +kernel) rfl (tb_c1 rfl) (Nat.le_of_ble_eq_true rfl) ?_
  show tz_At l G M_X6_handed (tb_rm 3 0 0) none (tb_ZM G 0 0 (zQ n 0 (zqi (fun z J' => WR J' J m m ∧ (z = -1 ∨ z = v)))) (zX n 0 zN)) 0 0 n J 0 [some (.ref 158), some (zi v), some (zi f), none] []
  have h7 := hF.1
  have ha := hF.2 f hf.1 hf.2
  have ha2 := ha.2.1
  refine tz_aload_n (pc := 0) dX6_handed_0 rfl rfl ?_
  refine tz_fR (pc := 1) dX6_handed_1 fl_X6_15 r_158_5 ?_
  refine tz_iload_n (pc := 4) dX6_handed_4 rfl rfl ?_
  refine tz_aL (pc := 5) (z := f) (v := (J 160 f)) dX6_handed_5 a_160 rfl (by omega) rfl (fun r_5 => ?_)
  refine tz_istore_n (pc := 6) (L2 := [_, _, _, _]) dX6_handed_6 rfl (by decide) rfl ?_
  refine tz_iload_n (pc := 7) dX6_handed_7 rfl rfl ?_
  refine tz_iconst (pc := 8) dX6_handed_8 ?_
  refine tz_icmp_lt (pc := 9) (tgt := 19) dX6_handed_9 (by decide) (by omega) (by decide) (fun h_9 => ?_) (fun h_9 => ?_)
  · refine tz_aload_n (pc := 19) dX6_handed_19 rfl rfl ?_
    refine tz_fR (pc := 20) dX6_handed_20 fl_X6_18 r_158_6 ?_
    refine tz_iload_n (pc := 23) dX6_handed_23 rfl rfl ?_
    refine tz_iconst (pc := 24) dX6_handed_24 ?_
    refine tz_imul (pc := 25) (v := f * 3) dX6_handed_25 rfl ?_
    refine tz_iload_n (pc := 26) dX6_handed_26 rfl rfl ?_
    refine tz_iadd (pc := 27) (v := (f * 3) + (J 160 f)) dX6_handed_27 rfl ?_
    refine tz_iload_n (pc := 28) dX6_handed_28 rfl rfl ?_
    refine tz_aS (pc := 29) (z := ((f * 3) + (J 160 f))) dX6_handed_29 a_161 rfl (by omega) (by omega) ?_
    refine tz_aload_n (pc := 30) dX6_handed_30 rfl rfl ?_
    refine tz_fR (pc := 31) dX6_handed_31 fl_X6_15 r_158_5 ?_
    refine tz_iload_n (pc := 34) dX6_handed_34 rfl rfl ?_
    refine tz_iload_n (pc := 35) dX6_handed_35 rfl rfl ?_
    refine tz_iconst (pc := 36) dX6_handed_36 ?_
    refine tz_iadd (pc := 37) (v := (J 160 f) + 1) dX6_handed_37 rfl ?_
    refine tz_aS (pc := 38) (z := f) dX6_handed_38 a_160 rfl (by omega) (by omega) ?_
    refine tz_iconst (pc := 39) dX6_handed_39 ?_
    exact tz_iret (pc := 40) (z := (-1)) dX6_handed_40 rfl (Nat.le_of_ble_eq_true rfl) (Nat.le_of_ble_eq_true rfl) ⟨Nat.le_refl _, Nat.le_add_right _ _⟩ ⟨_, rfl, (by decide), (by first | exact ⟨g1, Or.inr h1⟩ | exact ⟨⟨(GX.rf C hm).off rfl (zOf.up rfl (zOf.up rfl zOf.rf)), hL, hF.part hf rfl (by omega) hv.2⟩, Or.inl rfl⟩)⟩
  · refine tz_aload_n (pc := 12) dX6_handed_12 rfl rfl ?_
    refine tz_iload_n (pc := 13) dX6_handed_13 rfl rfl ?_
    refine tz_iload_n (pc := 14) dX6_handed_14 rfl rfl ?_
    refine tz_cV (pc := 15) (c_closedWith hl n _ _ _ (by omega) (by omega) m C hm hL hF hf hv) vl_X6_93 dX6_handed_15 o_158 rfl rfl (Nat.le_of_ble_eq_true rfl) ⟨(Nat.le_of_ble_eq_true rfl), (Nat.le_of_ble_eq_true rfl)⟩ rfl rfl (Nat.le_of_ble_eq_true rfl) (Nat.le_of_ble_eq_true rfl) (fun r9 J_15 hq9 => ?_)
    obtain ⟨z_15, rfl, hz_15, g1, h1⟩ := hq9
    exact tz_iret (pc := 18) (z := z_15) dX6_handed_18 rfl (Nat.le_of_ble_eq_true rfl) (Nat.le_of_ble_eq_true rfl) ⟨Nat.le_refl _, Nat.le_add_right _ _⟩ ⟨_, rfl, (by omega), (by first | exact ⟨g1, Or.inr h1⟩ | exact ⟨⟨(GX.rf C hm).off rfl (zOf.up rfl (zOf.up rfl zOf.rf)), hL, hF.part hf rfl (by omega) hv.2⟩, Or.inl rfl⟩)⟩

set_option maxHeartbeats 4000000 in
set_option maxRecDepth 100000 in
theorem c_countStep {l : Launch} {G : tb_G} (hl : l.stackTraces = false) (n : Nat) (J : zJ) (f : Int) (hr_f : -2147483648 ≤ f ∧ f < 2147483648) (m : Int) (C : CT J m) (hm : J 6 12 = m) (hL : LI (J 19) m) (hF : FR J m) (hf : 0 ≤ f ∧ f < J 158 7) (hs : J 8 (J 159 f) ≤ J 160 f) (h8 : 0 < J 158 8) : tz_Ok l G M_X6_countStep 0 0 0 [.ref 158, zi f] n J (zqv (fun J' => WR J' J m m ∧ zOf (zbut [19, 158, 160]) J' J ∧ (∀ k, ¬ k = 3 → J' 19 k = J 19 k))) zN := by
  refine tz_Ok.of hl (by decide +kernel) rfl (tb_c1 rfl) (Nat.le_of_ble_eq_true rfl) ?_
  show tz_At l G M_X6_countStep (tb_rm 0 0 0) none (tb_ZM G 0 0 (zQ n 0 (zqv (fun J' => WR J' J m m ∧ zOf (zbut [19, 158, 160]) J' J ∧ (∀ k, ¬ k = 3 → J' 19 k = J 19 k)))) (zX n 0 zN)) 0 0 n J 0 [some (.ref 158), some (zi f)] []
  have h7 := hF.1
  have r8 := h8
  refine tz_aload_n (pc := 0) dX6_countStep_0 rfl rfl ?_
  refine tz_dup (pc := 1) dX6_countStep_1 rfl ?_
  refine tz_fI (pc := 2) (kz := 8) (v := (J 158 8)) dX6_countStep_2 fl_X6_25 i_158_8 rfl rfl (fun r_2 => ?_)
  refine tz_iconst (pc := 5) dX6_countStep_5 ?_
  refine tz_isub (pc := 6) (v := (J 158 8) - 1) dX6_countStep_6 rfl ?_
  refine tz_pI (pc := 7) (kz := 8) dX6_countStep_7 fl_X6_25 i_158_8 rfl rfl (by omega) ?_
  refine tz_aload_n (pc := 10) dX6_countStep_10 rfl rfl ?_
  refine tz_fR (pc := 11) dX6_countStep_11 fl_X6_28 r_158_0 ?_
  refine tz_fR (pc := 14) dX6_countStep_14 fl_X6_65 r_5_1 ?_
  refine tz_fR (pc := 17) dX6_countStep_17 fl_X6_100 r_18_0 ?_
  refine tz_iconst (pc := 20) dX6_countStep_20 ?_
  refine tz_dup2 (pc := 21) dX6_countStep_21 rfl rfl ?_
  refine tz_aL (pc := 22) (z := 3) (v := (J 19 3)) dX6_countStep_22 a_19 rfl (by decide) rfl (fun r_22 => ?_)
  refine tz_iconst (pc := 23) dX6_countStep_23 ?_
  refine tz_iadd (pc := 24) (v := (J 19 3) + 1) dX6_countStep_24 rfl ?_
  refine tz_tw ?_
  have rw_25 := zw_rg ((J 19 3) + 1)
  refine tz_aS (pc := 25) (z := 3) dX6_countStep_25 a_19 rfl (by decide) (zw_rg _) ?_
  refine tz_aload_n (pc := 26) dX6_countStep_26 rfl rfl ?_
  refine tz_fR (pc := 27) dX6_countStep_27 fl_X6_15 r_158_5 ?_
  refine tz_iload_n (pc := 30) dX6_countStep_30 rfl rfl ?_
  refine tz_iconst (pc := 31) dX6_countStep_31 ?_
  refine tz_aS (pc := 32) (z := f) dX6_countStep_32 a_160 rfl (by omega) (by decide) ?_
  exact tz_vret (pc := 33) dX6_countStep_33 rfl (Nat.le_of_ble_eq_true rfl) (Nat.le_of_ble_eq_true rfl) ⟨Nat.le_refl _, Nat.le_add_right _ _⟩ ⟨rfl, ⟨⟨((GX.rf C hm).off rfl (zOf.up rfl (zOf.up rfl (zOf.up rfl zOf.rf)))), hL.steps (J := zup J 158 8 (J 158 8 - 1)), (hF.step (x := J 158 8 - 1) hf hs).of (Int.le_refl _) (fun _ _ _ => rfl) rfl rfl rfl rfl⟩, zOf.up rfl (zOf.up rfl (zOf.up rfl zOf.rf)), fun k hk => show zup (zup J 158 8 (J 158 8 - 1)) 19 3 (zw (J 19 3 + 1)) 19 k = J 19 k from zup_ne hk⟩⟩

set_option maxHeartbeats 4000000 in
set_option maxRecDepth 100000 in
theorem c_wentOn {l : Launch} {G : tb_G} (hl : l.stackTraces = false) (n : Nat) (J : zJ) (f : Int) (hr_f : -2147483648 ≤ f ∧ f < 2147483648) (m : Int) (C : CT J m) (hm : J 6 12 = m) (hL : LI (J 19) m) (hF : FR J m) (hf : 0 ≤ f ∧ f < J 158 7) : tz_Ok l G M_X6_wentOn 10 0 0 [.ref 158, zi f] n J (zqi (fun z J' => ∃ m', WR J' J m m' ∧ -3 ≤ z ∧ z < m')) zN := by
  refine tz_Ok.of hl (by decide +kernel) rfl (tb_c1 rfl) (Nat.le_of_ble_eq_true rfl) ?_
  show tz_At l G M_X6_wentOn (tb_rm 10 0 0) none (tb_ZM G 0 0 (zQ n 0 (zqi (fun z J' => ∃ m', WR J' J m m' ∧ -3 ≤ z ∧ z < m'))) (zX n 0 zN)) 0 0 n J 0 [some (.ref 158), some (zi f), none, none, none, none] []
  have hb := C.told
  have h7 := hF.1
  have ha := hF.2 f hf.1 hf.2
  have ha1 := ha.1
  have ha2 := ha.2.1
  have hr := C.ar ha.1.1 ha.1.2
  refine tz_aload_n (pc := 0) dX6_wentOn_0 rfl rfl ?_
  refine tz_fR (pc := 1) dX6_wentOn_1 fl_X6_11 r_158_4 ?_
  refine tz_iload_n (pc := 4) dX6_wentOn_4 rfl rfl ?_
  refine tz_aL (pc := 5) (z := f) (v := (J 159 f)) dX6_wentOn_5 a_159 rfl (by omega) rfl (fun r_5 => ?_)
  refine tz_istore_n (pc := 6) (L2 := [_, _, _, _, _, _]) dX6_wentOn_6 rfl (by decide) rfl ?_
  refine tz_aload_n (pc := 7) dX6_wentOn_7 rfl rfl ?_
  refine tz_fR (pc := 8) dX6_wentOn_8 fl_X6_15 r_158_5 ?_
  refine tz_iload_n (pc := 11) dX6_wentOn_11 rfl rfl ?_
  refine tz_aL (pc := 12) (z := f) (v := (J 160 f)) dX6_wentOn_12 a_160 rfl (by omega) rfl (fun r_12 => ?_)
  refine tz_aload_n (pc := 13) dX6_wentOn_13 rfl rfl ?_
  refine tz_fR (pc := 14) dX6_wentOn_14 fl_X6_38 r_158_1 ?_
  refine tz_fR (pc := 17) dX6_wentOn_17 fl_X6_74 r_6_2 ?_
  refine tz_iload_n (pc := 20) dX6_wentOn_20 rfl rfl ?_
  refine tz_aL (pc := 21) (z := (J 159 f)) (v := (J 8 (J 159 f))) dX6_wentOn_21 a_8 rfl (by omega) rfl (fun r_21 => ?_)
  refine tz_icmp_ge (pc := 22) (tgt := 44) dX6_wentOn_22 (by decide) (by omega) (by omega) (fun h_22 => ?_) (fun h_22 => ?_)
  · refine tz_iload_n (pc := 44) dX6_wentOn_44 rfl rfl ?_
    refine tz_iconst (pc := 45) dX6_wentOn_45 ?_
    refine tz_imul (pc := 46) (v := f * 3) dX6_wentOn_46 rfl ?_
    refine tz_istore_n (pc := 47) (L2 := [_, _, _, _, _, _]) dX6_wentOn_47 rfl (by decide) rfl ?_
    refine tz_aload_n (pc := 48) dX6_wentOn_48 rfl rfl ?_
    refine tz_fR (pc := 49) dX6_wentOn_49 fl_X6_38 r_158_1 ?_
    refine tz_aload_n (pc := 52) dX6_wentOn_52 rfl rfl ?_
    refine tz_fR (pc := 53) dX6_wentOn_53 fl_X6_38 r_158_1 ?_
    refine tz_fR (pc := 56) dX6_wentOn_56 fl_X6_80 r_6_1 ?_
    refine tz_iload_n (pc := 59) dX6_wentOn_59 rfl rfl ?_
    refine tz_aL (pc := 60) (z := (J 159 f)) (v := (J 7 (J 159 f))) dX6_wentOn_60 a_7 rfl (by omega) rfl (fun r_60 => ?_)
    refine tz_aload_n (pc := 61) dX6_wentOn_61 rfl rfl ?_
    refine tz_fR (pc := 62) dX6_wentOn_62 fl_X6_18 r_158_6 ?_
    refine tz_iload_n (pc := 65) dX6_wentOn_65 rfl rfl ?_
    refine tz_aL (pc := 66) (z := (f * 3)) (v := (J 161 (f * 3))) dX6_wentOn_66 a_161 rfl (by omega) rfl (fun r_66 => ?_)
    refine tz_aload_n (pc := 67) dX6_wentOn_67 rfl rfl ?_
    refine tz_fR (pc := 68) dX6_wentOn_68 fl_X6_18 r_158_6 ?_
    refine tz_iload_n (pc := 71) dX6_wentOn_71 rfl rfl ?_
    refine tz_iconst (pc := 72) dX6_wentOn_72 ?_
    refine tz_iadd (pc := 73) (v := (f * 3) + 1) dX6_wentOn_73 rfl ?_
    refine tz_aL (pc := 74) (z := ((f * 3) + 1)) (v := (J 161 ((f * 3) + 1))) dX6_wentOn_74 a_161 rfl (by omega) rfl (fun r_74 => ?_)
    refine tz_aload_n (pc := 75) dX6_wentOn_75 rfl rfl ?_
    refine tz_fR (pc := 76) dX6_wentOn_76 fl_X6_18 r_158_6 ?_
    refine tz_iload_n (pc := 79) dX6_wentOn_79 rfl rfl ?_
    refine tz_iconst (pc := 80) dX6_wentOn_80 ?_
    refine tz_iadd (pc := 81) (v := (f * 3) + 2) dX6_wentOn_81 rfl ?_
    refine tz_aL (pc := 82) (z := ((f * 3) + 2)) (v := (J 161 ((f * 3) + 2))) dX6_wentOn_82 a_161 rfl (by omega) rfl (fun r_82 => ?_)
    have hA : J 8 (J 159 f) = arh (J 3) (J 7 (J 159 f)) := (C.2.1 _ ha.1.1 ha.1.2).1.1
    have p0 := ha.2.2 0
    have p1 := ha.2.2 1
    have p2 := ha.2.2 2
    rw [Int.add_zero] at p0
    refine tz_cV (pc := 83) (c_made hl n _ _ _ _ _ (by omega) (by omega) (by omega) (by omega) m C hm (by omega) ⟨by omega, by omega, by omega⟩) vl_X6_83 dX6_wentOn_83 o_6 rfl rfl (Nat.le_of_ble_eq_true rfl) ⟨(Nat.le_of_ble_eq_true rfl), (Nat.le_of_ble_eq_true rfl)⟩ rfl rfl (Nat.le_of_ble_eq_true rfl) (Nat.le_of_ble_eq_true rfl) (fun r9 J_83 hq9 => ?_)
    obtain ⟨z_83, rfl, hz_83, p_83⟩ := hq9
    obtain ⟨m9, g9, h9⟩ := GR.made p_83 (by omega)
    have q9 := WR.made (WR.rf C hm hL hF) g9
    have b9 := g9.1
    have t9 := q9.1.2.1.told
    refine tz_istore (pc := 86) (L2 := [_, _, _, _, _, _]) dX6_wentOn_86 (by decide) rfl ?_
    refine tz_iload (pc := 88) dX6_wentOn_88 rfl ?_
    refine tz_if_ge (pc := 90) (tgt := 96) dX6_wentOn_90 (by decide) (by omega) (fun h_90 => ?_) (fun h_90 => ?_)
    · refine tz_aload_n (pc := 96) dX6_wentOn_96 rfl rfl ?_
      refine tz_fR (pc := 97) dX6_wentOn_97 fl_X6_28 r_158_0 ?_
      refine tz_fR (pc := 100) dX6_wentOn_100 fl_X6_65 r_5_1 ?_
      refine tz_aload_n (pc := 103) dX6_wentOn_103 rfl rfl ?_
      refine tz_fR (pc := 104) dX6_wentOn_104 fl_X6_39 r_158_2 ?_
      refine tz_iload (pc := 107) dX6_wentOn_107 rfl ?_
      refine tz_cS (pc := 109) (c_firstRule hl n _ _ (by omega) m9 q9.1.2.1 q9.2.1 (by omega)) sl_X6_87 dX6_wentOn_109 rfl rfl (Nat.le_of_ble_eq_true rfl) ⟨(Nat.le_of_ble_eq_true rfl), (Nat.le_of_ble_eq_true rfl)⟩ rfl rfl (Nat.le_of_ble_eq_true rfl) (Nat.le_of_ble_eq_true rfl) (fun r9 J_109 hq9 => ?_)
      obtain ⟨z_109, rfl, hz_109, a_1, a_2⟩ := hq9
      have q8 := q9.led (a_1.mono (fun c hc => by simp [zbut] at hc ⊢; omega)) (by rw [a_1 19 rfl]; exact q9.2.1)
      have x158 : J_109 158 = J 158 := (a_1 158 rfl).trans (g9.2.2.2.2 158 rfl)
      have x159 : J_109 159 = J 159 := (a_1 159 rfl).trans (g9.2.2.2.2 159 rfl)
      have x160 : J_109 160 = J 160 := (a_1 160 rfl).trans (g9.2.2.2.2 160 rfl)
      have x8 : J_109 8 (J 159 f) = J 8 (J 159 f) := (congrFun (a_1 8 rfl) _).trans (g9.2.2.2.1.1 _ ha.1.1 ha.1.2).2.1
      refine tz_istore (pc := 112) (L2 := [_, _, _, _, _, _]) dX6_wentOn_112 (by decide) rfl ?_
      refine tz_iload (pc := 114) dX6_wentOn_114 rfl ?_
      refine tz_iconst (pc := 116) dX6_wentOn_116 ?_
      refine tz_icmp_ne (pc := 117) (tgt := 128) dX6_wentOn_117 (by decide) (by omega) (by decide) (fun h_117 => ?_) (fun h_117 => ?_)
      · refine tz_aload_n (pc := 128) dX6_wentOn_128 rfl rfl ?_
        refine tz_fI (pc := 129) (kz := 8) (v := (J 158 8)) dX6_wentOn_129 fl_X6_25 i_158_8 rfl (Eq.trans (congrFun (a_1 158 rfl) 8) (Eq.trans (congrFun (g9.2.2.2.2 158 rfl) 8) rfl)) (fun r_129 => ?_)
        refine tz_if_gt (pc := 132) (tgt := 138) dX6_wentOn_132 (by decide) (by omega) (fun h_132 => ?_) (fun h_132 => ?_)
        · refine tz_aload_n (pc := 138) dX6_wentOn_138 rfl rfl ?_
          refine tz_iload_n (pc := 139) dX6_wentOn_139 rfl rfl ?_
          refine tz_cV (pc := 140) (c_countStep hl n _ _ (by omega) m9 q8.1.2.1 q8.1.2.2.1 q8.2.1 q8.2.2 (by rw [x158]; exact hf) (by rw [x159, x160, x8]; omega) (by rw [x158]; omega)) vl_X6_96 dX6_wentOn_140 o_158 rfl rfl (Nat.le_of_ble_eq_true rfl) ⟨(Nat.le_of_ble_eq_true rfl), (Nat.le_of_ble_eq_true rfl)⟩ rfl rfl (Nat.le_of_ble_eq_true rfl) (Nat.le_of_ble_eq_true rfl) (fun r9 J_140 hq9 => ?_)
          obtain ⟨rfl, g_140, f_140, k_140⟩ := hq9
          have q7 := q8.tr g_140
          have r7 := a_2.resolve_left (by omega)
          have s7 := (q9.2.1.2.2.1 z_109 r7.1.1 r7.1.2).2
          have e19 := g9.2.2.2.2 19 rfl
          rw [e19] at s7 r7
          have h4 := hL.1.2.1
          refine tz_aload_n (pc := 143) dX6_wentOn_143 rfl rfl ?_
          refine tz_aload_n (pc := 144) dX6_wentOn_144 rfl rfl ?_
          refine tz_fR (pc := 145) dX6_wentOn_145 fl_X6_43 r_158_3 ?_
          refine tz_aload_n (pc := 148) dX6_wentOn_148 rfl rfl ?_
          refine tz_fR (pc := 149) dX6_wentOn_149 fl_X6_28 r_158_0 ?_
          refine tz_fR (pc := 152) dX6_wentOn_152 fl_X6_65 r_5_1 ?_
          refine tz_fR (pc := 155) dX6_wentOn_155 fl_X6_100 r_18_0 ?_
          refine tz_bipush (pc := 158) dX6_wentOn_158 (by decide) ?_
          refine tz_iload (pc := 160) dX6_wentOn_160 rfl ?_
          refine tz_iadd (pc := 162) (v := 23 + z_109) dX6_wentOn_162 rfl ?_
          refine tz_aL (pc := 163) (z := (23 + z_109)) (v := (J 19 (23 + z_109))) dX6_wentOn_163 a_19 rfl (by omega) (Eq.trans (k_140 (23 + z_109) (by omega)) (Eq.trans (congrFun (a_1 19 rfl) (23 + z_109)) (Eq.trans (congrFun (g9.2.2.2.2 19 rfl) (23 + z_109)) rfl))) (fun r_163 => ?_)
          refine tz_aload_n (pc := 164) dX6_wentOn_164 rfl rfl ?_
          refine tz_fR (pc := 165) dX6_wentOn_165 fl_X6_39 r_158_2 ?_
          refine tz_fR (pc := 168) dX6_wentOn_168 fl_X6_103 r_139_1 ?_
          refine tz_iconst (pc := 171) dX6_wentOn_171 ?_
          refine tz_cV (pc := 172) (c_applied140 hl n _ _ (by omega) m9 q7.1.2.1 q7.1.2.2.1 (by omega) (gOK.r (by rw [f_140 140 rfl]; exact r7.2))) vl_X6_108 dX6_wentOn_172 o_141 rfl rfl (Nat.le_of_ble_eq_true rfl) ⟨(Nat.le_of_ble_eq_true rfl), (Nat.le_of_ble_eq_true rfl)⟩ rfl rfl (Nat.le_of_ble_eq_true rfl) (Nat.le_of_ble_eq_true rfl) (fun r9 J_172 hq9 => ?_)
          obtain ⟨z_172, rfl, hz_172, m7, g7, h7x⟩ := hq9
          have q6 := q7.made g7
          have b7 := g7.1
          have t7 := q6.1.2.1.told
          refine tz_cV (pc := 175) (c_opened hl n _ _ (by omega) m7 q6.1.2.1 q6.1.2.2.1 q6.2.1 q6.2.2 (by omega)) vl_X6_47 dX6_wentOn_175 o_158 rfl rfl (Nat.le_of_ble_eq_true rfl) ⟨(Nat.le_of_ble_eq_true rfl), (Nat.le_of_ble_eq_true rfl)⟩ rfl rfl (Nat.le_of_ble_eq_true rfl) (Nat.le_of_ble_eq_true rfl) (fun r9 J_175 hq9 => ?_)
          obtain ⟨z_175, rfl, hz_175, g_175, h_175⟩ := hq9
          exact tz_iret (pc := 178) (z := z_175) dX6_wentOn_178 rfl (Nat.le_of_ble_eq_true rfl) (Nat.le_of_ble_eq_true rfl) ⟨Nat.le_refl _, Nat.le_add_right _ _⟩ ⟨_, rfl, (by omega), ⟨m7, q6.tr g_175, h_175⟩⟩
        · refine tz_bipush (pc := 135) dX6_wentOn_135 (by decide) ?_
          exact tz_iret (pc := 137) (z := (-2)) dX6_wentOn_137 rfl (Nat.le_of_ble_eq_true rfl) (Nat.le_of_ble_eq_true rfl) ⟨Nat.le_refl _, Nat.le_add_right _ _⟩ ⟨_, rfl, (by decide), ⟨m9, q8, by have := b9; omega⟩⟩
      · refine tz_aload_n (pc := 120) dX6_wentOn_120 rfl rfl ?_
        refine tz_iload (pc := 121) dX6_wentOn_121 rfl ?_
        refine tz_iload_n (pc := 123) dX6_wentOn_123 rfl rfl ?_
        refine tz_cV (pc := 124) (c_closedWith hl n _ _ _ (by omega) (by omega) m9 q8.1.2.1 q8.1.2.2.1 q8.2.1 q8.2.2 (by rw [x158]; exact hf) (by omega)) vl_X6_93 dX6_wentOn_124 o_158 rfl rfl (Nat.le_of_ble_eq_true rfl) ⟨(Nat.le_of_ble_eq_true rfl), (Nat.le_of_ble_eq_true rfl)⟩ rfl rfl (Nat.le_of_ble_eq_true rfl) (Nat.le_of_ble_eq_true rfl) (fun r9 J_124 hq9 => ?_)
        obtain ⟨z_124, rfl, hz_124, g_124, h_124⟩ := hq9
        exact tz_iret (pc := 127) (z := z_124) dX6_wentOn_127 rfl (Nat.le_of_ble_eq_true rfl) (Nat.le_of_ble_eq_true rfl) ⟨Nat.le_refl _, Nat.le_add_right _ _⟩ ⟨_, rfl, (by omega), ⟨m9, q8.tr g_124, by have := q8.1.1; omega⟩⟩
    · refine tz_iload (pc := 93) dX6_wentOn_93 rfl ?_
      exact tz_iret (pc := 95) (z := z_83) dX6_wentOn_95 rfl (Nat.le_of_ble_eq_true rfl) (Nat.le_of_ble_eq_true rfl) ⟨Nat.le_refl _, Nat.le_add_right _ _⟩ ⟨_, rfl, (by omega), ⟨m9, q9, by omega⟩⟩
  · refine tz_aload_n (pc := 25) dX6_wentOn_25 rfl rfl ?_
    refine tz_aload_n (pc := 26) dX6_wentOn_26 rfl rfl ?_
    refine tz_fR (pc := 27) dX6_wentOn_27 fl_X6_38 r_158_1 ?_
    refine tz_iload_n (pc := 30) dX6_wentOn_30 rfl rfl ?_
    refine tz_aload_n (pc := 31) dX6_wentOn_31 rfl rfl ?_
    refine tz_fR (pc := 32) dX6_wentOn_32 fl_X6_15 r_158_5 ?_
    refine tz_iload_n (pc := 35) dX6_wentOn_35 rfl rfl ?_
    refine tz_aL (pc := 36) (z := f) (v := (J 160 f)) dX6_wentOn_36 a_160 rfl (by omega) rfl (fun r_36 => ?_)
    have hg := C.arg ha.1.1 ha.1.2 ha.2.1.1 (by omega)
    refine tz_cV (pc := 37) (c_arg hl n _ _ _ (by omega) (by omega) (by omega)) vl_X6_77 dX6_wentOn_37 o_6 rfl rfl (Nat.le_of_ble_eq_true rfl) ⟨(Nat.le_of_ble_eq_true rfl), (Nat.le_of_ble_eq_true rfl)⟩ rfl rfl (Nat.le_of_ble_eq_true rfl) (Nat.le_of_ble_eq_true rfl) (fun r9 J_37 hq9 => ?_)
    obtain ⟨z_37, rfl, hz_37, rfl, rfl⟩ := hq9
    refine tz_cV (pc := 40) (c_opened hl n _ _ (by omega) m C hm hL hF (by omega)) vl_X6_47 dX6_wentOn_40 o_158 rfl rfl (Nat.le_of_ble_eq_true rfl) ⟨(Nat.le_of_ble_eq_true rfl), (Nat.le_of_ble_eq_true rfl)⟩ rfl rfl (Nat.le_of_ble_eq_true rfl) (Nat.le_of_ble_eq_true rfl) (fun r9 J_40 hq9 => ?_)
    obtain ⟨z_40, rfl, hz_40, g_40, h_40⟩ := hq9
    exact tz_iret (pc := 43) (z := z_40) dX6_wentOn_43 rfl (Nat.le_of_ble_eq_true rfl) (Nat.le_of_ble_eq_true rfl) ⟨Nat.le_refl _, Nat.le_add_right _ _⟩ ⟨_, rfl, (by omega), ⟨m, g_40, h_40⟩⟩

set_option maxHeartbeats 4000000 in
set_option maxRecDepth 100000 in
theorem c_normalOf {l : Launch} {G : tb_G} (hl : l.stackTraces = false) (n : Nat) (J : zJ) (t : Int) (hr_t : -2147483648 ≤ t ∧ t < 2147483648) (m : Int) (C : CT J m) (hm : J 6 12 = m) (hL : LI (J 19) m) (ht : 0 ≤ t ∧ t < m) : tz_Ok l G M_X6_normalOf 11 0 0 [.ref 158, zi t] n J (zqi (fun z J' => ∃ m', GX [19, 140, 158, 159, 160, 161] J' J m m' ∧ LI (J' 19) m' ∧ (z = -3 ∨ z = -2 ∨ (0 ≤ z ∧ z < m')))) zN := by
  refine tz_Ok.of hl (by decide +kernel) rfl (tb_c1 rfl) (Nat.le_of_ble_eq_true rfl) ?_
  show tz_At l G M_X6_normalOf (tb_rm 11 0 0) none (tb_ZM G 0 0 (zQ n 0 (zqi (fun z J' => ∃ m', GX [19, 140, 158, 159, 160, 161] J' J m m' ∧ LI (J' 19) m' ∧ (z = -3 ∨ z = -2 ∨ (0 ≤ z ∧ z < m'))))) (zX n 0 zN)) 0 0 n J 0 [some (.ref 158), some (zi t), none, none] []
  have hb := C.told
  refine tz_aload_n (pc := 0) dX6_normalOf_0 rfl rfl ?_
  refine tz_iconst (pc := 1) dX6_normalOf_1 ?_
  refine tz_pI (pc := 2) (kz := 7) dX6_normalOf_2 fl_X6_21 i_158_7 rfl rfl (by decide) ?_
  refine tz_aload_n (pc := 5) dX6_normalOf_5 rfl rfl ?_
  refine tz_iload_n (pc := 6) dX6_normalOf_6 rfl rfl ?_
  have g0 : WR (zup J 158 7 0) J m m := ⟨(GX.rf C hm).off rfl (zOf.up rfl zOf.rf), hL, ⟨⟨Int.le_refl 0, (by decide : (0 : Int) ≤ 612)⟩, fun f a b => absurd b (by show ¬ f < 0; omega)⟩⟩
  refine tz_cV (pc := 7) (c_opened hl n _ _ (by omega) m g0.1.2.1 g0.1.2.2.1 g0.2.1 g0.2.2 (by omega)) vl_X6_47 dX6_normalOf_7 o_158 rfl rfl (Nat.le_of_ble_eq_true rfl) ⟨(Nat.le_of_ble_eq_true rfl), (Nat.le_of_ble_eq_true rfl)⟩ rfl rfl (Nat.le_of_ble_eq_true rfl) (Nat.le_of_ble_eq_true rfl) (fun r9 J_7 hq9 => ?_)
  obtain ⟨z_7, rfl, hz_7, g1, h1⟩ := hq9
  refine tz_istore_n (pc := 10) (L2 := [_, _, _, _]) dX6_normalOf_10 rfl (by decide) rfl ?_
  refine tz_iconst (pc := 11) dX6_normalOf_11 ?_
  refine tz_istore_n (pc := 12) (L2 := [_, _, _, _]) dX6_normalOf_12 rfl (by decide) rfl ?_
  have loop13 : ∀ (f9 : Nat) (v : Int) (k : Int) (J1 : zJ) (m1 : Int), ((1000000 - k).toNat) < f9 → ((-3 ≤ v ∧ v < m1) ∧ (0 ≤ k ∧ k ≤ 1000000)) → (WR J1 J m m1) → tz_At l G M_X6_normalOf (tb_rm 11 0 0) none (tb_ZM G 0 0 (zQ n 0 (zqi (fun z J' => ∃ m', GX [19, 140, 158, 159, 160, 161] J' J m m' ∧ LI (J' 19) m' ∧ (z = -3 ∨ z = -2 ∨ (0 ≤ z ∧ z < m'))))) (zX n 0 zN)) 0 0 n J1 13 [some (.ref 158), some (zi t), some (zi v), some (zi k)] [] := by
    intro f9
    induction f9 with
    | zero => intro v k J1 m1 hm9; exact absurd hm9 (Nat.not_lt_zero _)
    | succ f9 ih13 =>
      intro v k J1 m1 hm13 hv g2
      have h7 := g2.2.2.1
      have t1 := g2.1.2.1.told
      refine tz_iload_n (pc := 13) dX6_normalOf_13 rfl rfl ?_
      refine tz_ldc (pc := 14) (z := 1000000) dX6_normalOf_14 ct_X6_51 (by decide) ?_
      refine tz_icmp_ge (pc := 16) (tgt := 67) dX6_normalOf_16 (by decide) (by omega) (by decide) (fun h_16 => ?_) (fun h_16 => ?_)
      · refine tz_iload_n (pc := 67) dX6_normalOf_67 rfl rfl ?_
        refine tz_iconst (pc := 68) dX6_normalOf_68 ?_
        refine tz_icmp_ne (pc := 69) (tgt := 77) dX6_normalOf_69 (by decide) (by omega) (by decide) (fun h_69 => ?_) (fun h_69 => ?_)
        · refine tz_iload_n (pc := 77) dX6_normalOf_77 rfl rfl ?_
          exact tz_iret (pc := 78) (z := v) dX6_normalOf_78 rfl (Nat.le_of_ble_eq_true rfl) (Nat.le_of_ble_eq_true rfl) ⟨Nat.le_refl _, Nat.le_add_right _ _⟩ ⟨_, rfl, (by omega), ⟨m1, g2.1, g2.2.1, by omega⟩⟩
        · refine tz_bipush (pc := 72) dX6_normalOf_72 (by decide) ?_
          refine tz_goto (pc := 74) (tgt := 78) dX6_normalOf_74 (by decide) ?_
          exact tz_iret (pc := 78) (z := (-2)) dX6_normalOf_78 rfl (Nat.le_of_ble_eq_true rfl) (Nat.le_of_ble_eq_true rfl) ⟨Nat.le_refl _, Nat.le_add_right _ _⟩ ⟨_, rfl, (by decide), ⟨m1, g2.1, g2.2.1, by omega⟩⟩
      · refine tz_aload_n (pc := 19) dX6_normalOf_19 rfl rfl ?_
        refine tz_fI (pc := 20) (kz := 7) (v := (J1 158 7)) dX6_normalOf_20 fl_X6_21 i_158_7 rfl rfl (fun r_20 => ?_)
        refine tz_if_le (pc := 23) (tgt := 67) dX6_normalOf_23 (by decide) (by omega) (fun h_23 => ?_) (fun h_23 => ?_)
        · refine tz_iload_n (pc := 67) dX6_normalOf_67 rfl rfl ?_
          refine tz_iconst (pc := 68) dX6_normalOf_68 ?_
          refine tz_icmp_ne (pc := 69) (tgt := 77) dX6_normalOf_69 (by decide) (by omega) (by decide) (fun h_69 => ?_) (fun h_69 => ?_)
          · refine tz_iload_n (pc := 77) dX6_normalOf_77 rfl rfl ?_
            exact tz_iret (pc := 78) (z := v) dX6_normalOf_78 rfl (Nat.le_of_ble_eq_true rfl) (Nat.le_of_ble_eq_true rfl) ⟨Nat.le_refl _, Nat.le_add_right _ _⟩ ⟨_, rfl, (by omega), ⟨m1, g2.1, g2.2.1, by omega⟩⟩
          · refine tz_bipush (pc := 72) dX6_normalOf_72 (by decide) ?_
            refine tz_goto (pc := 74) (tgt := 78) dX6_normalOf_74 (by decide) ?_
            exact tz_iret (pc := 78) (z := (-2)) dX6_normalOf_78 rfl (Nat.le_of_ble_eq_true rfl) (Nat.le_of_ble_eq_true rfl) ⟨Nat.le_refl _, Nat.le_add_right _ _⟩ ⟨_, rfl, (by decide), ⟨m1, g2.1, g2.2.1, by omega⟩⟩
        · refine tz_iload_n (pc := 26) dX6_normalOf_26 rfl rfl ?_
          refine tz_iconst (pc := 27) dX6_normalOf_27 ?_
          refine tz_icmp_lt (pc := 28) (tgt := 67) dX6_normalOf_28 (by decide) (by omega) (by decide) (fun h_28 => ?_) (fun h_28 => ?_)
          · refine tz_iload_n (pc := 67) dX6_normalOf_67 rfl rfl ?_
            refine tz_iconst (pc := 68) dX6_normalOf_68 ?_
            refine tz_icmp_ne (pc := 69) (tgt := 77) dX6_normalOf_69 (by decide) (by omega) (by decide) (fun h_69 => ?_) (fun h_69 => ?_)
            · refine tz_iload_n (pc := 77) dX6_normalOf_77 rfl rfl ?_
              exact tz_iret (pc := 78) (z := v) dX6_normalOf_78 rfl (Nat.le_of_ble_eq_true rfl) (Nat.le_of_ble_eq_true rfl) ⟨Nat.le_refl _, Nat.le_add_right _ _⟩ ⟨_, rfl, (by omega), ⟨m1, g2.1, g2.2.1, by omega⟩⟩
            · refine tz_bipush (pc := 72) dX6_normalOf_72 (by decide) ?_
              refine tz_goto (pc := 74) (tgt := 78) dX6_normalOf_74 (by decide) ?_
              exact tz_iret (pc := 78) (z := (-2)) dX6_normalOf_78 rfl (Nat.le_of_ble_eq_true rfl) (Nat.le_of_ble_eq_true rfl) ⟨Nat.le_refl _, Nat.le_add_right _ _⟩ ⟨_, rfl, (by decide), ⟨m1, g2.1, g2.2.1, by omega⟩⟩
          · refine tz_iload_n (pc := 31) dX6_normalOf_31 rfl rfl ?_
            refine tz_iconst (pc := 32) dX6_normalOf_32 ?_
            refine tz_icmp_ne (pc := 33) (tgt := 49) dX6_normalOf_33 (by decide) (by omega) (by decide) (fun h_33 => ?_) (fun h_33 => ?_)
            · refine tz_aload_n (pc := 49) dX6_normalOf_49 rfl rfl ?_
              refine tz_iload_n (pc := 50) dX6_normalOf_50 rfl rfl ?_
              refine tz_aload_n (pc := 51) dX6_normalOf_51 rfl rfl ?_
              refine tz_fI (pc := 52) (kz := 7) (v := (J1 158 7)) dX6_normalOf_52 fl_X6_21 i_158_7 rfl rfl (fun r_52 => ?_)
              refine tz_iconst (pc := 55) dX6_normalOf_55 ?_
              refine tz_isub (pc := 56) (v := (J1 158 7) - 1) dX6_normalOf_56 rfl ?_
              refine tz_cV (pc := 57) (c_handed hl n _ _ _ (by omega) (by omega) m1 g2.1.2.1 g2.1.2.2.1 g2.2.1 g2.2.2 (by omega) (by omega)) vl_X6_55 dX6_normalOf_57 o_158 rfl rfl (Nat.le_of_ble_eq_true rfl) ⟨(Nat.le_of_ble_eq_true rfl), (Nat.le_of_ble_eq_true rfl)⟩ rfl rfl (Nat.le_of_ble_eq_true rfl) (Nat.le_of_ble_eq_true rfl) (fun r9 J_57 hq9 => ?_)
              obtain ⟨z_57, rfl, hz_57, g4, h4⟩ := hq9
              refine tz_istore_n (pc := 60) (L2 := [_, _, _, _]) dX6_normalOf_60 rfl (by decide) rfl ?_
              refine tz_iinc (pc := 61) (z := k + 1) (L2 := [_, _, _, _]) dX6_normalOf_61 rfl (by omega) rfl ?_
              refine tz_goto (pc := 64) (tgt := 13) dX6_normalOf_64 (by decide) ?_
              exact ih13 _ (k + 1) _ m1 (by omega) (by omega) (g2.tr g4)
            · refine tz_aload_n (pc := 36) dX6_normalOf_36 rfl rfl ?_
              refine tz_aload_n (pc := 37) dX6_normalOf_37 rfl rfl ?_
              refine tz_fI (pc := 38) (kz := 7) (v := (J1 158 7)) dX6_normalOf_38 fl_X6_21 i_158_7 rfl rfl (fun r_38 => ?_)
              refine tz_iconst (pc := 41) dX6_normalOf_41 ?_
              refine tz_isub (pc := 42) (v := (J1 158 7) - 1) dX6_normalOf_42 rfl ?_
              refine tz_cV (pc := 43) (c_wentOn hl n _ _ (by omega) m1 g2.1.2.1 g2.1.2.2.1 g2.2.1 g2.2.2 (by omega)) vl_X6_52 dX6_normalOf_43 o_158 rfl rfl (Nat.le_of_ble_eq_true rfl) ⟨(Nat.le_of_ble_eq_true rfl), (Nat.le_of_ble_eq_true rfl)⟩ rfl rfl (Nat.le_of_ble_eq_true rfl) (Nat.le_of_ble_eq_true rfl) (fun r9 J_43 hq9 => ?_)
              obtain ⟨z_43, rfl, hz_43, m3, g3, h3⟩ := hq9
              refine tz_goto (pc := 46) (tgt := 60) dX6_normalOf_46 (by decide) ?_
              refine tz_istore_n (pc := 60) (L2 := [_, _, _, _]) dX6_normalOf_60 rfl (by decide) rfl ?_
              refine tz_iinc (pc := 61) (z := k + 1) (L2 := [_, _, _, _]) dX6_normalOf_61 rfl (by omega) rfl ?_
              refine tz_goto (pc := 64) (tgt := 13) dX6_normalOf_64 (by decide) ?_
              exact ih13 _ (k + 1) _ m3 (by omega) (by omega) (g2.tr g3)
  exact loop13 _ _ 0 _ m (Nat.lt_succ_self _) (by omega) (g0.tr g1)

end
section
def tb_VR (own : String) (idx : Nat) (y : tb_Mt) (nA : Nat) : Prop := Cond.methodLink own idx y.1 ∈ tb_W ∧ Cond.instanceMethod y.1 ∈ tb_W ∧ Cond.selects y.1.cls y.1 y.1 ∈ tb_W ∧ tb_CD y nA
theorem vr_X5_104 : tb_VR RX5 104 M_J0_length_8abf5 0 := ⟨(tb_mem 1186 (by decide +kernel) (by decide +kernel)), (tb_mem 1187 (by decide +kernel) (by decide +kernel)), (tb_mem 1188 (by decide +kernel) (by decide +kernel)), cd_J0_length_8abf5⟩
theorem vr_X5_109 : tb_VR RX5 109 M_J0_charAt_5068e 1 := ⟨(tb_mem 1196 (by decide +kernel) (by decide +kernel)), (tb_mem 1197 (by decide +kernel) (by decide +kernel)), (tb_mem 1198 (by decide +kernel) (by decide +kernel)), cd_J0_charAt_5068e⟩
theorem vr_J0_335 : tb_VR RJ0 335 M_J0_coder_7d493 0 := ⟨(tb_mem 1190 (by decide +kernel) (by decide +kernel)), (tb_mem 1191 (by decide +kernel) (by decide +kernel)), (tb_mem 1192 (by decide +kernel) (by decide +kernel)), cd_J0_coder_7d493⟩
theorem vr_J0_492 : tb_VR RJ0 492 M_J0_isLatin1_aae02 0 := ⟨(tb_mem 1200 (by decide +kernel) (by decide +kernel)), (tb_mem 1201 (by decide +kernel) (by decide +kernel)), (tb_mem 1202 (by decide +kernel) (by decide +kernel)), cd_J0_isLatin1_aae02⟩
theorem fs_cs : Cond.fieldLink RJ0 38 "java/lang/String" "COMPACT_STRINGS" "Z" ∈ tb_W := (tb_mem 1194 (by decide +kernel) (by decide +kernel))
theorem fs_co : Cond.fieldLink RJ0 15 "java/lang/String" "coder" "B" ∈ tb_W := (tb_mem 2188 (by decide +kernel) (by decide +kernel))
theorem fs_va : Cond.fieldLink RJ0 9 "java/lang/String" "value" "[B" ∈ tb_W := (tb_mem 2187 (by decide +kernel) (by decide +kernel))
theorem fs_si : Cond.fieldLink RJ0 1053 "jdk/internal/util/Preconditions" "SIOOBE_FORMATTER" "Ljava/util/function/BiFunction;" ∈ tb_W := (tb_mem 1210 (by decide +kernel) (by decide +kernel))
end
section
/-! ===== texts and tables that lie outside the world ===== -/
/-- an end that is owed only where P holds of what tb_sc stands for -/
def ZP (P : (Nat → Prop) → State → Nat → Prop) (Z : tb_CT → State → Prop) : tb_CT → State → Prop := fun K t => P K.2.2.2.1 K.1 (K.2.2.2.2.1 tb_sc) → Z K t
def PGo (P : (Nat → Prop) → State → Nat → Prop) : Prop := ∀ (A B : Nat → Prop) (s U : State) (b : Nat), P A s b → s.WarmedH U.vm → (∀ a : Nat, a < s.heap.size → ¬ A a → U.heap[a]? = s.heap[a]?) → (∀ q, B q → A q) → P B U b
/-- a text with these bytes; a row of bytes; anything -/
def PS (bs : List Int32) : (Nat → Prop) → State → Nat → Prop := fun A U b => ∃ v : Nat, vk_S 1 [bs.length] [bs] (fun _ => b) (fun _ => v) A U U.heap
def PB (bs : List Int32) : (Nat → Prop) → State → Nat → Prop := fun A U b => va_T .byte b bs.length (fun j => .int (bs.getD j 0)) A U U.heap
def PA : (Nat → Prop) → State → Nat → Prop := fun _ _ _ => True
theorem PS.go (bs : List Int32) : PGo (PS bs) := fun _ _ _ _ _ h hW hk hAB => by
  obtain ⟨v, h⟩ := h
  exact ⟨v, ((h.kept hk).moved hW.alike).narrow hAB⟩
theorem PB.go (bs : List Int32) : PGo (PB bs) := fun _ _ _ _ _ h hW hk hAB => ((va_T.kept h hk).moved hW.alike).narrow hAB
theorem PA.go : PGo PA := fun _ _ _ _ _ _ _ _ _ => trivial
theorem PS.T {bs : List Int32} {A : Nat → Prop} {U : State} {b : Nat} (h : PS bs A U b) : ∃ v : Nat, va_O "java/lang/String" b A U U.heap ∧ va_OF "java/lang/String" "coder" "B" (.int 0) b A U U.heap ∧ va_OF "java/lang/String" "value" "[B" (.ref v) b A U U.heap ∧ PB bs A U v := by
  obtain ⟨v, h⟩ := h
  obtain ⟨h1, h2, h3, h4⟩ := h.1 0 (by decide)
  exact ⟨v, h1, h2, h3, h4⟩
def tb_OkP (P : (Nat → Prop) → State → Nat → Prop) (l : Launch) (G : tb_G) (y : tb_Mt) (d mc ms : Nat) (as : List Value) (n : Nat) (sh : Nat → tb_Sh) (I : tb_I) (Q : tb_Q) (X : tb_X) : Prop :=
  tb_so n as → tb_cl n sh → ∀ (adr : Nat → Nat) (sz : Nat), vx_Met l y.1 (tb_wy y) (tb_rm d mc ms) (va_Pc (as.map (tb_rn adr)) (fun U => tb_Pr G adr sz n sh I U ∧ P (va_A (tb_ws G adr n sh I) sz) U (adr tb_sc))) (tb_Qc G Q (va_A (tb_ws G adr n sh I) sz) adr n) (tb_XC G X (va_A (tb_ws G adr n sh I) sz) adr n) mc ms (va_A (tb_ws G adr n sh I) sz)
theorem tb_OkP.of {P : (Nat → Prop) → State → Nat → Prop} {l : Launch} {G : tb_G} {y : tb_Mt} {d mc ms : Nat} {as : List Value} {n : Nat} {sh : Nat → tb_Sh} {I : tb_I} {Q : tb_Q} {X : tb_X} (hl : l.stackTraces = false) (hy : plainName y.1.cls = true) (hh : y.2.2.2.2 = []) (hc : ∀ v ∈ as, v.category = 1) (hn : as.length ≤ y.2.2.1)
    (h : tb_At l G y (tb_rm d mc ms) none (ZP P (tb_ZM G mc ms Q X)) 0 0 n sh I 0 (tb_L0 as y.2.2.1) []) : tb_OkP P l G y d mc ms as n sh I Q X := by
  intro hs hcl adr sz
  refine vx_ofW (cc := y.2.1) (maxL := y.2.2.1) (ret := y.2.2.2.1) hy rfl ?_
  intro p e s m args below meth c s₁ B hml ht hv
  obtain ⟨rfl, ⟨hsz, hP, hK, hD0, hE⟩, hPP⟩ := hv
  have hts := atoms_spec (ws := tb_wy y) B.pre
  have hown : s.vm.findClass y.1.cls = some m.cls := findClass_of_methodNamed B.named
  subst hsz
  have hS : va_S (va_A (tb_ws G adr n sh I) s.heap.size) s.heap s.heap [] := va_S.rf
  have htab : c.exceptionTable.toList = tableOf y.2.2.2.2 := by
    rw [hh]
    cases e9 : c.exceptionTable.toList with
    | nil => rfl
    | cons x xs => exact (ht x (by rw [e9]; exact List.mem_cons_self)).elim
  rw [lg_entry_eq]
  have h9 := h ⟨hcl, tb_lo0 hc hs, fun _ h9 => nomatch h9⟩ p e s m _ below meth c (va_A (tb_ws G adr n sh I) s.heap.size) adr n (adr tb_sc)
    ⟨B.exec, B.bytes, hml, B.returns, B.notSynchronized, hown, (name_of_methodNamed B.named B.method).1, htab, fun w hw => hts w (List.mem_cons_of_mem _ hw), fun q hq => Or.inr hq, hK, hE, hl, trivial⟩
    s.heap [] adr _ ⟨fun _ _ => rfl, rfl, Nat.le_refl _, rfl⟩ hP hD0.self hS (tb_entry hc hn)
  intro T hT X
  obtain ⟨t, a1, b1⟩ := h9 T hT X
  exact ⟨t, a1, b1 hPP⟩
theorem tb_blindP {P : (Nat → Prop) → State → Nat → Prop} (hgo : PGo P) {G : tb_G} {adr : Nat → Nat} {sz n b : Nat} {sh : Nat → tb_Sh} {I : tb_I} {av : List Value} {A : Nat → Prop} : FrameBlind (va_Pc av (fun U => tb_Pr G adr sz n sh I U ∧ P A U b)) := by
  intro a U g mk h
  obtain ⟨h1, ⟨h2, h3, h4, h5, h6⟩, h7⟩ := h
  exact ⟨h1, ⟨h2, h3, va_K.moved (u := U) (U := U.calling g mk a) (Vm.Alike.refl U.vm) h4, h5, h6.go (U := U.calling g mk a) (State.WarmedH.refl U) (fun _ _ _ => rfl) (fun _ h => h)⟩, hgo A A U (U.calling g mk a) b h7 (State.WarmedH.refl U) (fun _ _ _ => rfl) (fun _ h => h)⟩
theorem tb_ad_sc {adr : Nat → Nat} {v : Nat} : tb_ad adr tb_sc v tb_sc = v := by simp [tb_ad]
theorem tb_ad_lt {adr : Nat → Nat} {n v k : Nat} (hn : n ≤ tb_sc) (hk : k < n) : tb_ad adr tb_sc v k = adr k := by
  have : ¬ k = tb_sc := by omega
  simp [tb_ad, this]
section TBF
variable {l : Launch} {G : tb_G} {y : tb_Mt} {R : Room} {xt : Option (Nat × (Nat → Int32))} {Z : tb_CT → State → Prop} {k1 k2 n : Nat} {sh : Nat → tb_Sh} {I : tb_I} {pc : Nat} {L : List (Option Value)} {S : List Value}
/-- what a callee that ran with another tb_sc says, said of ours -/
theorem tb_runF {p : Program} {e : Env} {s : State} {m : MethodId} {args : Array Value} {below : List Frame} {meth : Method} {c : Code} {A : Nat → Prop} {H : Heap} {locs : List Loc} {adr : Nat → Nat} {g : JFrame} {rest : List Value} {Q' : tb_Q} {X' : tb_X} {mc ms v : Nat} {a : Array Value} {free : Addr → Prop}
    (hr : vx_Run p l e R s m args below meth c H locs k1 k2 mc ms g rest (tb_Qc G Q' A (tb_ad adr tb_sc v) n a) (tb_XC G X' A (tb_ad adr tb_sc v) n) free) (hn : n ≤ tb_sc) (hQ : ∀ r n' sh' I', Q' r n' sh' I' → n' ≤ tb_sc ∧ ∀ q, ¬ r = some (.ref q)) (hX : ∀ E n' sh' I', ¬ X' E n' sh' I') :
    vx_Run p l e R s m args below meth c H locs k1 k2 mc ms g rest (tb_Qc G Q' A adr n a) (tb_XC G X' A adr n) free := by
  intro T hT X
  rcases hr T hT X with ⟨v9, st₀, t, T', L', h0, X9, hL, e1, e2, ⟨r, n', sh', I', adr', ho, hq, hvk, ⟨w1, w2, w3, w4, w5, w6, w7⟩, hF⟩, st⟩ | ⟨q, st₀, t, T', L', E, ce, h0, X9, hL, e1, e2, ⟨n', sh', I', adr', hx, -⟩, -⟩
  · refine Or.inl ⟨v9, st₀, t, T', L', h0, X9, hL, e1, e2, ⟨r, n', sh', I', tb_ad adr' tb_sc (adr tb_sc), ?_, hq, hvk, ⟨fun k hk => ?_, tb_ad_sc, w3, ?_, ?_, w6, w7⟩, hF⟩, st⟩
    · rw [ho]
      cases r with
      | none => rfl
      | some w =>
        cases w with
        | ref q => exact absurd rfl ((hQ _ _ _ _ hq).2 q)
        | _ => rfl
    · rw [tb_ad_lt hn hk, w1 k hk, tb_ad_lt hn hk]
    · rw [tb_ws_ad w7 (fun k hk => tb_ad_lt (hQ _ _ _ _ hq).1 hk)]
      exact w4
    · rw [tb_ws_ad w7 (fun k hk => tb_ad_lt (hQ _ _ _ _ hq).1 hk)]
      exact w5
  · exact absurd hx (hX _ _ _ _)
theorem tb_preF {P : (Nat → Prop) → State → Nat → Prop} (hgo : PGo P) {p : Program} {e : Env} {s : State} {m : MethodId} {args : Array Value} {meth : Method} {c : Code} {A : Nat → Prop} {bx : Nat} (C : tb_Cx l G y R xt p e s m args meth c A bx) {H : Heap} {locs : List Loc} {adr : Nat → Nat} (hP : va_P G.1 vwCl (tb_ws G adr n sh I) H) (hD : va_D A (tb_ws G adr n sh I)) (hS : va_S A s.heap H locs) (as : List Value) {v : Nat} (hcl : tb_cl n sh) (hn : n ≤ tb_sc) (hpv : P A s v) :
    ∀ U : State, U.heap = H → s.WarmedH U.vm → va_Pc (as.map (tb_rn (tb_ad adr tb_sc v))) (fun U => tb_Pr G (tb_ad adr tb_sc v) H.size n sh I U ∧ P (va_A (tb_ws G (tb_ad adr tb_sc v) n sh I) H.size) U (tb_ad adr tb_sc v tb_sc)) (as.map (tb_rn (tb_ad adr tb_sc v))).toArray U := by
  intro U hU hW
  have e1 : tb_ws G (tb_ad adr tb_sc v) n sh I = tb_ws G adr n sh I := tb_ws_ad hcl (fun k hk => tb_ad_lt hn hk)
  obtain ⟨-, a1, a2, a3, a4, a5⟩ := tb_pre C hP hD hS as U hU hW
  refine ⟨rfl, ⟨a1, by rw [e1]; exact a2, a3, by rw [e1]; exact a4, by rw [e1]; exact a5⟩, ?_⟩
  rw [e1, tb_ad_sc]
  exact hgo A _ s U v hpv hW (fun a h1 h2 => by rw [hU]; exact hS.2.1 a h1 h2) (tb_Asub hD hS C.2.2.2.2.2.2.2.2.2.1)
theorem tb_callSF {P : (Nat → Prop) → State → Nat → Prop} (hgo : PGo P) {idx nA d mc ms v : Nat} {y' : tb_Mt} {as : List Value} {Q' : tb_Q} {X' : tb_X} (hM : tb_OkP P l G y' d mc ms as n sh I Q' X') (hv : tb_SL y.1.cls idx y' nA) (hd : decode y.2.1 pc = .ok (.invokestatic idx, 3)) (hna : as.length = nA)
    (hcat : (S.map fun v => v.category).sum ≤ 8) (hR : d + 1 ≤ R.frames ∧ 8 + (y'.2.2.1 + 11) + 40 * d ≤ R.locals) (hce : k1 + mc ≤ R.cells) (hsl : k2 + ms ≤ R.slots) (hnb : n ≤ tb_sc) (hQ : ∀ r n' sh' I', Q' r n' sh' I' → n' ≤ tb_sc ∧ ∀ q, ¬ r = some (.ref q)) (hX : ∀ E n' sh' I', ¬ X' E n' sh' I')
    {p : Program} {e : Env} {s : State} {m : MethodId} {args : Array Value} {below : List Frame} {meth : Method} {c : Code} {A : Nat → Prop} {adr0 : Nat → Nat} {n0 bx : Nat} (C : tb_Cx l G y R xt p e s m args meth c A bx) {H : Heap} {locs : List Loc} {adr : Nat → Nat} {ls : Array Slot}
    (ha : (∀ k, k < n0 → adr k = adr0 k) ∧ adr tb_sc = adr0 tb_sc ∧ n0 ≤ n ∧ adr0 tb_sc = bx) (hP : va_P G.1 vwCl (tb_ws G adr n sh I) H) (hD : va_D A (tb_ws G adr n sh I)) (hS : va_S A s.heap H locs) (hl : tb_LL adr ls y.2.2.1 L) (hcl : tb_cl n sh) (hlo : tb_lo n L) (hso : tb_so n S) (has : tb_so n as) (hpv : P A s v)
    (kk : ∀ (r : Option Value) (n' : Nat) (sh' : Nat → tb_Sh) (I' : tb_I), Q' r n' sh' I' → tb_At l G y R xt Z (k1 + mc) (k2 + ms) n' sh' I' (pc + 3) L (r.toList ++ S)) :
    W p l e R s m args below meth c H locs k1 k2 (Z (s, args, below, A, adr0, n0)) (F0 m pc ls ((as.map (tb_rn (tb_ad adr tb_sc v))).reverse ++ S.map (tb_rn adr))) := by
  obtain ⟨hl1, hl2, hCD⟩ := hv
  have hts := C.2.2.2.2.2.2.2.2.1
  have e1 : tb_ws G (tb_ad adr tb_sc v) n sh I = tb_ws G adr n sh I := tb_ws_ad hcl (fun k hk => tb_ad_lt hnb hk)
  have hrun := vx_runS (e := e) (g := F0 m pc ls ((as.map (tb_rn (tb_ad adr tb_sc v))).reverse ++ S.map (tb_rn adr))) (below := below) (meth := meth) (cells := k1) (slots := k2) (locs := locs) (As := as.map (tb_rn (tb_ad adr tb_sc v))) (rest := S.map (tb_rn adr)) (Ts := tb_W) (own := y.1.cls) (cc := y.2.1) (nL := y.2.2.1) ⟨C.1, C.2.1, C.2.2.1, C.2.2.2.2.2.1, hts⟩ (hM has hcl (tb_ad adr tb_sc v) H.size) ⟨tb_callB hts hl1 hCD hR, hts _ hl2⟩
      ⟨tb_blindP hgo, tb_preF hgo C hP hD hS as hcl hnb hpv⟩ rfl (by rw [List.length_map]; exact hna) hl.1 rfl (lv_room (by rw [tb_cats]; exact hcat)) hd ⟨hce, hsl⟩
  rw [e1] at hrun
  exact tb_back C ha hD hS hl hlo hso (tb_runF hrun hnb hQ hX) kk (fun E n' sh' I' h => absurd h (hX _ _ _ _))
theorem tb_callVF {P : (Nat → Prop) → State → Nat → Prop} (hgo : PGo P) {idx nA d mc ms v c9 ci N : Nat} {rs : List (Option Nat)} {y' : tb_Mt} {as : List Value} {Q' : tb_Q} {X' : tb_X} (hM : tb_OkP P l G y' d mc ms (.ref c9 :: as) n sh I Q' X') (hv : tb_VL y.1.cls idx y' nA ci) (hd : decode y.2.1 pc = .ok (.invokevirtual idx, 3)) (hs : sh c9 = (ci, N, rs)) (hcn : c9 < n) (hna : as.length = nA)
    (hcat : (S.map fun v => v.category).sum ≤ 8) (hR : d + 1 ≤ R.frames ∧ 8 + (y'.2.2.1 + 11) + 40 * d ≤ R.locals) (hce : k1 + mc ≤ R.cells) (hsl : k2 + ms ≤ R.slots) (hnb : n ≤ tb_sc) (hQ : ∀ r n' sh' I', Q' r n' sh' I' → n' ≤ tb_sc ∧ ∀ q, ¬ r = some (.ref q)) (hX : ∀ E n' sh' I', ¬ X' E n' sh' I')
    {p : Program} {e : Env} {s : State} {m : MethodId} {args : Array Value} {below : List Frame} {meth : Method} {c : Code} {A : Nat → Prop} {adr0 : Nat → Nat} {n0 bx : Nat} (C : tb_Cx l G y R xt p e s m args meth c A bx) {H : Heap} {locs : List Loc} {adr : Nat → Nat} {ls : Array Slot}
    (ha : (∀ k, k < n0 → adr k = adr0 k) ∧ adr tb_sc = adr0 tb_sc ∧ n0 ≤ n ∧ adr0 tb_sc = bx) (hP : va_P G.1 vwCl (tb_ws G adr n sh I) H) (hD : va_D A (tb_ws G adr n sh I)) (hS : va_S A s.heap H locs) (hl : tb_LL adr ls y.2.2.1 L) (hcl : tb_cl n sh) (hlo : tb_lo n L) (hso : tb_so n S) (has : tb_so n as) (hpv : P A s v)
    (kk : ∀ (r : Option Value) (n' : Nat) (sh' : Nat → tb_Sh) (I' : tb_I), Q' r n' sh' I' → tb_At l G y R xt Z (k1 + mc) (k2 + ms) n' sh' I' (pc + 3) L (r.toList ++ S)) :
    W p l e R s m args below meth c H locs k1 k2 (Z (s, args, below, A, adr0, n0)) (F0 m pc ls ((as.map (tb_rn (tb_ad adr tb_sc v))).reverse ++ .ref (adr c9) :: S.map (tb_rn adr))) := by
  obtain ⟨hl1, hl2, hl3, hCD, hci, T9, N9, hvc⟩ := hv
  have hts := C.2.2.2.2.2.2.2.2.1
  have e1 : tb_ws G (tb_ad adr tb_sc v) n sh I = tb_ws G adr n sh I := tb_ws_ad hcl (fun k hk => tb_ad_lt hnb hk)
  have e2 : tb_ad adr tb_sc v c9 = adr c9 := tb_ad_lt hnb hcn
  have he : (tb_ws G adr n sh I)[c9]? = some (adr c9, .inr (ci, tb_fs adr ci N rs (I c9))) := by rw [tb_ws_at hcn, hs, tb_en_obj hci]
  have hrun := vx_runV (e := e) (b := tb_ad adr tb_sc v c9) (g := F0 m pc ls ((as.map (tb_rn (tb_ad adr tb_sc v))).reverse ++ .ref (adr c9) :: S.map (tb_rn adr))) (below := below) (meth := meth) (cells := k1) (slots := k2) (locs := locs) (As := as.map (tb_rn (tb_ad adr tb_sc v))) (rest := S.map (tb_rn adr)) (Ts := tb_W) (own := y.1.cls) (cc := y.2.1) (nL := y.2.2.1) ⟨C.1, C.2.1, C.2.2.1, C.2.2.2.2.2.1, hts⟩ (hM (.cons (Or.inl hcn) has) hcl (tb_ad adr tb_sc v) H.size) ⟨tb_callB hts hl1 hCD hR, hts _ hl2, hts _ hl3⟩
      ⟨tb_blindP hgo, by rw [e2]; exact va_recv C.2.2.2.2.2.2.2.2.2.2.1 hP hvc he, tb_preF hgo C hP hD hS (.ref c9 :: as) hcl hnb hpv⟩ rfl (by rw [List.length_map]; exact hna) hl.1 (by rw [e2]) (lv_room (by rw [tb_cats]; exact hcat)) hd ⟨hce, hsl⟩
  rw [e1] at hrun
  exact tb_back C ha hD hS hl hlo hso (tb_runF hrun hnb hQ hX) kk (fun E n' sh' I' h => absurd h (hX _ _ _ _))
end TBF
end
