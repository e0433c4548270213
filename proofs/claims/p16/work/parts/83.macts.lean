/-! ===== acts of the reference ===== -/
def zbg (J : zJ) : zJ := zup (zup (zup (zmv J 165 0 63 63) 164 21 0) 164 33 0) 164 34 0
def zkL (J : zJ) : zJ := zup (zmv J 165 63 (189 + 63 * ((J 164 11 + J 164 10) % 40)) 63) 164 10 (J 164 10 + 1)
def zkF (J : zJ) : zJ := zup (zmv (zup (zup J 164 11 ((J 164 11 + 1) % 40)) 164 10 (J 164 10 - 1)) 165 63 (189 + 63 * (((J 164 11 + 1) % 40 + (J 164 10 - 1)) % 40)) 63) 164 10 (J 164 10 - 1 + 1)
set_option maxHeartbeats 4000000 in
set_option maxRecDepth 100000 in
theorem m_begins {l : Launch} {G : tb_G} (hl : l.stackTraces = false) (n : Nat) (J : zJ)     : tz_Ok l G M_X12_begins 1 0 0 [.ref 164] n J (zqv (fun J' => zbg J = J')) zN := by
  refine tz_Ok.of hl (by decide +kernel) rfl (tb_c1 rfl) (Nat.le_of_ble_eq_true rfl) ?_
  show tz_At l G M_X12_begins (tb_rm 1 0 0) none (tb_ZM G 0 0 (zQ n 0 (zqv (fun J' => zbg J = J'))) (zX n 0 zN)) 0 0 n J 0 [some (.ref 164)] []
  refine tz_aload_n (pc := 0) dX12_begins_0 rfl rfl ?_
  refine tz_iconst (pc := 1) dX12_begins_1 ?_
  refine tz_bipush (pc := 2) dX12_begins_2 (by decide) ?_
  refine tz_bipush (pc := 4) dX12_begins_4 (by decide) ?_
  refine tz_cV (pc := 6) (zm_copies hl n _ _ _ _ (by decide) (by decide) (by decide) (by omega) (by omega)) vl_X12_343 dX12_begins_6 o_164 rfl rfl (Nat.le_of_ble_eq_true rfl) ⟨(Nat.le_of_ble_eq_true rfl), (Nat.le_of_ble_eq_true rfl)⟩ rfl rfl (Nat.le_of_ble_eq_true rfl) (Nat.le_of_ble_eq_true rfl) (fun r9 J_6 hq9 => ?_)
  obtain ⟨rfl, rfl⟩ := hq9
  refine tz_aload_n (pc := 9) dX12_begins_9 rfl rfl ?_
  refine tz_iconst (pc := 10) dX12_begins_10 ?_
  refine tz_pZ (pc := 11) (kz := 21) dX12_begins_11 fl_X12_92 i_164_21 rfl rfl (Or.inl rfl) ?_
  refine tz_aload_n (pc := 14) dX12_begins_14 rfl rfl ?_
  refine tz_iconst (pc := 15) dX12_begins_15 ?_
  refine tz_pZ (pc := 16) (kz := 33) dX12_begins_16 fl_X12_195 i_164_33 rfl rfl (Or.inl rfl) ?_
  refine tz_aload_n (pc := 19) dX12_begins_19 rfl rfl ?_
  refine tz_iconst (pc := 20) dX12_begins_20 ?_
  refine tz_pI (pc := 21) (kz := 34) dX12_begins_21 fl_X12_208 i_164_34 rfl rfl (by decide) ?_
  exact tz_vret (pc := 24) dX12_begins_24 rfl (Nat.le_of_ble_eq_true rfl) (Nat.le_of_ble_eq_true rfl) ⟨Nat.le_refl _, Nat.le_add_right _ _⟩ ⟨rfl, rfl⟩

set_option maxHeartbeats 4000000 in
set_option maxRecDepth 100000 in
theorem m_refuses {l : Launch} {G : tb_G} (hl : l.stackTraces = false) (n : Nat) (J : zJ) (w : Int) (a : Int) (hr_w : -2147483648 ≤ w ∧ w < 2147483648) (hr_a : -2147483648 ≤ a ∧ a < 2147483648)  (h0 : 0 ≤ w ∧ w < 4) : tz_Ok l G M_X12_refuses 0 0 0 [.ref 164, zi w, zi a] n J (zqi (fun z J' => a = z ∧ zOf (zbut [172]) J' J)) zN := by
  refine tz_Ok.of hl (by decide +kernel) rfl (tb_c1 rfl) (Nat.le_of_ble_eq_true rfl) ?_
  show tz_At l G M_X12_refuses (tb_rm 0 0 0) none (tb_ZM G 0 0 (zQ n 0 (zqi (fun z J' => a = z ∧ zOf (zbut [172]) J' J))) (zX n 0 zN)) 0 0 n J 0 [some (.ref 164), some (zi w), some (zi a)] []
  refine tz_aload_n (pc := 0) dX12_refuses_0 rfl rfl ?_
  refine tz_fR (pc := 1) dX12_refuses_1 fl_X12_31 r_164_7 ?_
  refine tz_iload_n (pc := 4) dX12_refuses_4 rfl rfl ?_
  refine tz_dup2 (pc := 5) dX12_refuses_5 rfl rfl ?_
  refine tz_aL (pc := 6) (z := w) (v := (J 172 w)) dX12_refuses_6 a_172 rfl (by omega) rfl (fun r_6 => ?_)
  refine tz_iconst (pc := 7) dX12_refuses_7 ?_
  refine tz_iadd (pc := 8) (v := (J 172 w) + 1) dX12_refuses_8 rfl ?_
  refine tz_tw ?_
  have rw_9 := zw_rg ((J 172 w) + 1)
  refine tz_aS (pc := 9) (z := w) dX12_refuses_9 a_172 rfl (by omega) (zw_rg _) ?_
  refine tz_iload_n (pc := 10) dX12_refuses_10 rfl rfl ?_
  exact tz_iret (pc := 11) (z := a) dX12_refuses_11 rfl (Nat.le_of_ble_eq_true rfl) (Nat.le_of_ble_eq_true rfl) ⟨Nat.le_refl _, Nat.le_add_right _ _⟩ ⟨_, rfl, (by omega), ⟨rfl, zOf.up rfl zOf.rf⟩⟩

set_option maxHeartbeats 4000000 in
set_option maxRecDepth 100000 in
theorem m_fails {l : Launch} {G : tb_G} (hl : l.stackTraces = false) (n : Nat) (J : zJ) (w : Int) (a : Int) (hr_w : -2147483648 ≤ w ∧ w < 2147483648) (hr_a : -2147483648 ≤ a ∧ a < 2147483648)  (h0 : 0 ≤ w ∧ w < 4) : tz_Ok l G M_X12_fails 1 0 0 [.ref 164, zi w, zi a] n J (zqi (fun z J' => a = z ∧ zOf (zbut [172]) J' (zmv J 165 63 0 63))) zN := by
  refine tz_Ok.of hl (by decide +kernel) rfl (tb_c1 rfl) (Nat.le_of_ble_eq_true rfl) ?_
  show tz_At l G M_X12_fails (tb_rm 1 0 0) none (tb_ZM G 0 0 (zQ n 0 (zqi (fun z J' => a = z ∧ zOf (zbut [172]) J' (zmv J 165 63 0 63)))) (zX n 0 zN)) 0 0 n J 0 [some (.ref 164), some (zi w), some (zi a)] []
  refine tz_aload_n (pc := 0) dX12_fails_0 rfl rfl ?_
  refine tz_bipush (pc := 1) dX12_fails_1 (by decide) ?_
  refine tz_iconst (pc := 3) dX12_fails_3 ?_
  refine tz_bipush (pc := 4) dX12_fails_4 (by decide) ?_
  refine tz_cV (pc := 6) (zm_copies hl n _ _ _ _ (by decide) (by decide) (by decide) (by omega) (by omega)) vl_X12_343 dX12_fails_6 o_164 rfl rfl (Nat.le_of_ble_eq_true rfl) ⟨(Nat.le_of_ble_eq_true rfl), (Nat.le_of_ble_eq_true rfl)⟩ rfl rfl (Nat.le_of_ble_eq_true rfl) (Nat.le_of_ble_eq_true rfl) (fun r9 J_6 hq9 => ?_)
  obtain ⟨rfl, rfl⟩ := hq9
  refine tz_aload_n (pc := 9) dX12_fails_9 rfl rfl ?_
  refine tz_iload_n (pc := 10) dX12_fails_10 rfl rfl ?_
  refine tz_iload_n (pc := 11) dX12_fails_11 rfl rfl ?_
  refine tz_cV (pc := 12) (m_refuses hl n _ _ _ (by omega) (by omega) h0) vl_X12_391 dX12_fails_12 o_164 rfl rfl (Nat.le_of_ble_eq_true rfl) ⟨(Nat.le_of_ble_eq_true rfl), (Nat.le_of_ble_eq_true rfl)⟩ rfl rfl (Nat.le_of_ble_eq_true rfl) (Nat.le_of_ble_eq_true rfl) (fun r9 J_12 hq9 => ?_)
  obtain ⟨z_12, rfl, hz_12, rfl, f1⟩ := hq9
  exact tz_iret (pc := 15) (z := a) dX12_fails_15 rfl (Nat.le_of_ble_eq_true rfl) (Nat.le_of_ble_eq_true rfl) ⟨Nat.le_refl _, Nat.le_add_right _ _⟩ ⟨_, rfl, (by omega), ⟨rfl, f1⟩⟩

set_option maxHeartbeats 4000000 in
set_option maxRecDepth 100000 in
theorem m_keptAt {l : Launch} {G : tb_G} (hl : l.stackTraces = false) (n : Nat) (J : zJ) (a : Int) (b : Int) (hr_a : -2147483648 ≤ a ∧ a < 2147483648) (hr_b : -2147483648 ≤ b ∧ b < 2147483648)  (h0 : (0 ≤ a ∧ a < 40) ∧ 0 ≤ b ∧ b ≤ 40) : tz_Ok l G M_X12_keptAt 0 0 0 [zi a, zi b] n J (zqi (fun z J' => J = J' ∧ 189 + 63 * ((a + b) % 40) = z)) zN := by
  refine tz_Ok.of hl (by decide +kernel) rfl (tb_c1 rfl) (Nat.le_of_ble_eq_true rfl) ?_
  show tz_At l G M_X12_keptAt (tb_rm 0 0 0) none (tb_ZM G 0 0 (zQ n 0 (zqi (fun z J' => J = J' ∧ 189 + 63 * ((a + b) % 40) = z))) (zX n 0 zN)) 0 0 n J 0 [some (zi a), some (zi b)] []
  refine tz_sipush (pc := 0) dX12_keptAt_0 (by decide) ?_
  refine tz_bipush (pc := 3) dX12_keptAt_3 (by decide) ?_
  refine tz_iload_n (pc := 5) dX12_keptAt_5 rfl rfl ?_
  refine tz_iload_n (pc := 6) dX12_keptAt_6 rfl rfl ?_
  refine tz_iadd (pc := 7) (v := a + b) dX12_keptAt_7 rfl ?_
  refine tz_bipush (pc := 8) dX12_keptAt_8 (by decide) ?_
  refine tz_irem (pc := 10) (a := (a + b)) (b := 40) (v := ((a + b) % 40)) dX12_keptAt_10 (by omega) (by omega) rfl ?_
  refine tz_imul (pc := 11) (v := 63 * ((a + b) % 40)) dX12_keptAt_11 rfl ?_
  refine tz_iadd (pc := 12) (v := 189 + (63 * ((a + b) % 40))) dX12_keptAt_12 rfl ?_
  exact tz_iret (pc := 13) (z := (189 + (63 * ((a + b) % 40)))) dX12_keptAt_13 rfl (Nat.le_of_ble_eq_true rfl) (Nat.le_of_ble_eq_true rfl) ⟨Nat.le_refl _, Nat.le_add_right _ _⟩ ⟨_, rfl, (by omega), ⟨rfl, rfl⟩⟩

set_option maxHeartbeats 4000000 in
set_option maxRecDepth 100000 in
theorem m_keeps {l : Launch} {G : tb_G} (hl : l.stackTraces = false) (n : Nat) (J : zJ) (a : Int) (hr_a : -2147483648 ≤ a ∧ a < 2147483648)  (h0 : 0 ≤ J 164 10 ∧ J 164 10 ≤ 40) (h1 : 0 ≤ J 164 11 ∧ J 164 11 < 40) : tz_Ok l G M_X12_keeps 2 0 0 [.ref 164, zi a] n J (zqi (fun z J' => (¬ J 164 21 = 0 ∧ -3 = z ∧ zOf (zbut [172]) J' (zmv J 165 63 0 63)) ∨ (J 164 21 = 0 ∧ a = z ∧ ((¬ J 164 10 = 40 ∧ zkL J = J') ∨ (J 164 10 = 40 ∧ zkF J = J'))))) zN := by
  refine tz_Ok.of hl (by decide +kernel) rfl (tb_c1 rfl) (Nat.le_of_ble_eq_true rfl) ?_
  show tz_At l G M_X12_keeps (tb_rm 2 0 0) none (tb_ZM G 0 0 (zQ n 0 (zqi (fun z J' => (¬ J 164 21 = 0 ∧ -3 = z ∧ zOf (zbut [172]) J' (zmv J 165 63 0 63)) ∨ (J 164 21 = 0 ∧ a = z ∧ ((¬ J 164 10 = 40 ∧ zkL J = J') ∨ (J 164 10 = 40 ∧ zkF J = J')))))) (zX n 0 zN)) 0 0 n J 0 [some (.ref 164), some (zi a)] []
  refine tz_aload_n (pc := 0) dX12_keeps_0 rfl rfl ?_
  refine tz_fI (pc := 1) (kz := 21) (v := (J 164 21)) dX12_keeps_1 fl_X12_92 i_164_21 rfl rfl (fun r_1 => ?_)
  refine tz_if_eq (pc := 4) (tgt := 15) dX12_keeps_4 (by decide) (by omega) (fun h_4 => ?_) (fun h_4 => ?_)
  · refine tz_aload_n (pc := 15) dX12_keeps_15 rfl rfl ?_
    refine tz_fI (pc := 16) (kz := 10) (v := (J 164 10)) dX12_keeps_16 fl_X12_356 i_164_10 rfl rfl (fun r_16 => ?_)
    refine tz_bipush (pc := 19) dX12_keeps_19 (by decide) ?_
    refine tz_icmp_ne (pc := 21) (tgt := 47) dX12_keeps_21 (by decide) (by omega) (by decide) (fun h_21 => ?_) (fun h_21 => ?_)
    · refine tz_aload_n (pc := 47) dX12_keeps_47 rfl rfl ?_
      refine tz_bipush (pc := 48) dX12_keeps_48 (by decide) ?_
      refine tz_aload_n (pc := 50) dX12_keeps_50 rfl rfl ?_
      refine tz_fI (pc := 51) (kz := 11) (v := (J 164 11)) dX12_keeps_51 fl_X12_353 i_164_11 rfl rfl (fun r_51 => ?_)
      refine tz_aload_n (pc := 54) dX12_keeps_54 rfl rfl ?_
      refine tz_fI (pc := 55) (kz := 10) (v := (J 164 10)) dX12_keeps_55 fl_X12_356 i_164_10 rfl rfl (fun r_55 => ?_)
      refine tz_cS (pc := 58) (m_keptAt hl n _ _ _ (by omega) (by omega) (by omega)) sl_X12_397 dX12_keeps_58 rfl rfl (Nat.le_of_ble_eq_true rfl) ⟨(Nat.le_of_ble_eq_true rfl), (Nat.le_of_ble_eq_true rfl)⟩ rfl rfl (Nat.le_of_ble_eq_true rfl) (Nat.le_of_ble_eq_true rfl) (fun r9 J_58 hq9 => ?_)
      obtain ⟨z_58, rfl, hz_58, rfl, rfl⟩ := hq9
      refine tz_bipush (pc := 61) dX12_keeps_61 (by decide) ?_
      refine tz_cV (pc := 63) (zm_copies hl n _ _ _ _ (by decide) (by omega) (by decide) (by omega) (by omega)) vl_X12_343 dX12_keeps_63 o_164 rfl rfl (Nat.le_of_ble_eq_true rfl) ⟨(Nat.le_of_ble_eq_true rfl), (Nat.le_of_ble_eq_true rfl)⟩ rfl rfl (Nat.le_of_ble_eq_true rfl) (Nat.le_of_ble_eq_true rfl) (fun r9 J_63 hq9 => ?_)
      obtain ⟨rfl, rfl⟩ := hq9
      refine tz_aload_n (pc := 66) dX12_keeps_66 rfl rfl ?_
      refine tz_dup (pc := 67) dX12_keeps_67 rfl ?_
      refine tz_fI (pc := 68) (kz := 10) (v := (J 164 10)) dX12_keeps_68 fl_X12_356 i_164_10 rfl rfl (fun r_68 => ?_)
      refine tz_iconst (pc := 71) dX12_keeps_71 ?_
      refine tz_iadd (pc := 72) (v := (J 164 10) + 1) dX12_keeps_72 rfl ?_
      refine tz_pI (pc := 73) (kz := 10) dX12_keeps_73 fl_X12_356 i_164_10 rfl rfl (by omega) ?_
      refine tz_iload_n (pc := 76) dX12_keeps_76 rfl rfl ?_
      exact tz_iret (pc := 77) (z := a) dX12_keeps_77 rfl (Nat.le_of_ble_eq_true rfl) (Nat.le_of_ble_eq_true rfl) ⟨Nat.le_refl _, Nat.le_add_right _ _⟩ ⟨_, rfl, (by omega), Or.inr ⟨by omega, rfl, Or.inl ⟨by omega, rfl⟩⟩⟩
    · refine tz_aload_n (pc := 24) dX12_keeps_24 rfl rfl ?_
      refine tz_aload_n (pc := 25) dX12_keeps_25 rfl rfl ?_
      refine tz_fI (pc := 26) (kz := 11) (v := (J 164 11)) dX12_keeps_26 fl_X12_353 i_164_11 rfl rfl (fun r_26 => ?_)
      refine tz_iconst (pc := 29) dX12_keeps_29 ?_
      refine tz_iadd (pc := 30) (v := (J 164 11) + 1) dX12_keeps_30 rfl ?_
      refine tz_bipush (pc := 31) dX12_keeps_31 (by decide) ?_
      refine tz_irem (pc := 33) (a := ((J 164 11) + 1)) (b := 40) (v := (((J 164 11) + 1) % 40)) dX12_keeps_33 (by omega) (by omega) rfl ?_
      refine tz_pI (pc := 34) (kz := 11) dX12_keeps_34 fl_X12_353 i_164_11 rfl rfl (by omega) ?_
      refine tz_aload_n (pc := 37) dX12_keeps_37 rfl rfl ?_
      refine tz_dup (pc := 38) dX12_keeps_38 rfl ?_
      refine tz_fI (pc := 39) (kz := 10) (v := (J 164 10)) dX12_keeps_39 fl_X12_356 i_164_10 rfl rfl (fun r_39 => ?_)
      refine tz_iconst (pc := 42) dX12_keeps_42 ?_
      refine tz_isub (pc := 43) (v := (J 164 10) - 1) dX12_keeps_43 rfl ?_
      refine tz_pI (pc := 44) (kz := 10) dX12_keeps_44 fl_X12_356 i_164_10 rfl rfl (by omega) ?_
      refine tz_aload_n (pc := 47) dX12_keeps_47 rfl rfl ?_
      refine tz_bipush (pc := 48) dX12_keeps_48 (by decide) ?_
      refine tz_aload_n (pc := 50) dX12_keeps_50 rfl rfl ?_
      refine tz_fI (pc := 51) (kz := 11) (v := (((J 164 11) + 1) % 40)) dX12_keeps_51 fl_X12_353 i_164_11 rfl rfl (fun r_51 => ?_)
      refine tz_aload_n (pc := 54) dX12_keeps_54 rfl rfl ?_
      refine tz_fI (pc := 55) (kz := 10) (v := ((J 164 10) - 1)) dX12_keeps_55 fl_X12_356 i_164_10 rfl rfl (fun r_55 => ?_)
      refine tz_cS (pc := 58) (m_keptAt hl n _ _ _ (by omega) (by omega) (by omega)) sl_X12_397 dX12_keeps_58 rfl rfl (Nat.le_of_ble_eq_true rfl) ⟨(Nat.le_of_ble_eq_true rfl), (Nat.le_of_ble_eq_true rfl)⟩ rfl rfl (Nat.le_of_ble_eq_true rfl) (Nat.le_of_ble_eq_true rfl) (fun r9 J_58 hq9 => ?_)
      obtain ⟨z_58, rfl, hz_58, rfl, rfl⟩ := hq9
      refine tz_bipush (pc := 61) dX12_keeps_61 (by decide) ?_
      refine tz_cV (pc := 63) (zm_copies hl n _ _ _ _ (by decide) (by omega) (by decide) (by omega) (by omega)) vl_X12_343 dX12_keeps_63 o_164 rfl rfl (Nat.le_of_ble_eq_true rfl) ⟨(Nat.le_of_ble_eq_true rfl), (Nat.le_of_ble_eq_true rfl)⟩ rfl rfl (Nat.le_of_ble_eq_true rfl) (Nat.le_of_ble_eq_true rfl) (fun r9 J_63 hq9 => ?_)
      obtain ⟨rfl, rfl⟩ := hq9
      refine tz_aload_n (pc := 66) dX12_keeps_66 rfl rfl ?_
      refine tz_dup (pc := 67) dX12_keeps_67 rfl ?_
      refine tz_fI (pc := 68) (kz := 10) (v := ((J 164 10) - 1)) dX12_keeps_68 fl_X12_356 i_164_10 rfl rfl (fun r_68 => ?_)
      refine tz_iconst (pc := 71) dX12_keeps_71 ?_
      refine tz_iadd (pc := 72) (v := ((J 164 10) - 1) + 1) dX12_keeps_72 rfl ?_
      refine tz_pI (pc := 73) (kz := 10) dX12_keeps_73 fl_X12_356 i_164_10 rfl rfl (by omega) ?_
      refine tz_iload_n (pc := 76) dX12_keeps_76 rfl rfl ?_
      exact tz_iret (pc := 77) (z := a) dX12_keeps_77 rfl (Nat.le_of_ble_eq_true rfl) (Nat.le_of_ble_eq_true rfl) ⟨Nat.le_refl _, Nat.le_add_right _ _⟩ ⟨_, rfl, (by omega), Or.inr ⟨by omega, rfl, Or.inr ⟨by omega, rfl⟩⟩⟩
  · refine tz_aload_n (pc := 7) dX12_keeps_7 rfl rfl ?_
    refine tz_iconst (pc := 8) dX12_keeps_8 ?_
    refine tz_bipush (pc := 9) dX12_keeps_9 (by decide) ?_
    refine tz_cV (pc := 11) (m_fails hl n _ _ _ (by decide) (by decide) (by decide)) vl_X12_394 dX12_keeps_11 o_164 rfl rfl (Nat.le_of_ble_eq_true rfl) ⟨(Nat.le_of_ble_eq_true rfl), (Nat.le_of_ble_eq_true rfl)⟩ rfl rfl (Nat.le_of_ble_eq_true rfl) (Nat.le_of_ble_eq_true rfl) (fun r9 J_11 hq9 => ?_)
    obtain ⟨z_11, rfl, hz_11, rfl, f1⟩ := hq9
    exact tz_iret (pc := 14) (z := (-3)) dX12_keeps_14 rfl (Nat.le_of_ble_eq_true rfl) (Nat.le_of_ble_eq_true rfl) ⟨Nat.le_refl _, Nat.le_add_right _ _⟩ ⟨_, rfl, (by omega), Or.inl ⟨by omega, rfl, f1⟩⟩

