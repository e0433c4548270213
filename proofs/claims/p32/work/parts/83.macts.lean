section
/-! ===== acts of the reference ===== -/
def zbg (J : zJ) : zJ := zup (zup (zup (zmv J 165 0 63 63) 164 21 0) 164 33 0) 164 34 0
def zkL (J : zJ) : zJ := zup (zmv J 165 63 (189 + 63 * ((J 164 11 + J 164 10) % 40)) 63) 164 10 (J 164 10 + 1)
def zkF (J : zJ) : zJ := zup (zmv (zup (zup J 164 11 ((J 164 11 + 1) % 40)) 164 10 (J 164 10 - 1)) 165 63 (189 + 63 * (((J 164 11 + 1) % 40 + (J 164 10 - 1)) % 40)) 63) 164 10 (J 164 10 - 1 + 1)
set_option maxHeartbeats 4000000 in
set_option maxRecDepth 100000 in
theorem m_begins {l : Launch} {G : tb_G} (hl : l.stackTraces = false) (n : Nat) (J : zJ)     : tz_Ok l G M_X12_begins 1 0 0 [.ref 164] n J (zqv (fun J' => zbg J = J')) zN := by
  refine tz_Ok.of hl (by decide +kernel) rfl (tb_c1 rfl) (Nat.le_of_ble_eq_true rfl) ?_
  show tz_At l G M_X12_begins (tb_rm 1 0 0) none (tb_ZM G 0 0 (zQ n 0 (zqv (fun J' => zbg J = J'))) (zX n 0 zN)) 0 0 n J 0 [some (.ref 164)] []
  refine tz_aload_n (pc := 0) dX12_begins_0 rfl rfl ?_
  refine tz_iconst (pc := 1) dX12_begins_1 ?_
  refine tz_bipush (pc := 2) dX12_begins_2 (by decide) ?_
  refine tz_bipush (pc := 4) dX12_begins_4 (by decide) ?_
  refine tz_cV (pc := 6) (zm_copies hl n _ _ _ _ (by decide) (by decide) (by decide) (by omega) (by omega)) vl_X12_343 dX12_begins_6 o_164 rfl rfl (Nat.le_of_ble_eq_true rfl) ⟨(Nat.le_of_ble_eq_true rfl), (Nat.le_of_ble_eq_true rfl)⟩ rfl rfl (Nat.le_of_ble_eq_true rfl) (Nat.le_of_ble_eq_true rfl) (fun r9 J_6 hq9 => ?_)
  obtain ⟨rfl, rfl⟩ := hq9
  refine tz_aload_n (pc := 9) dX12_begins_9 rfl rfl ?_
  refine tz_iconst (pc := 10) dX12_begins_10 ?_
  refine tz_pZ (pc := 11) (kz := 21) dX12_begins_11 fl_X12_92 i_164_21 rfl rfl (Or.inl rfl) ?_
  refine tz_aload_n (pc := 14) dX12_begins_14 rfl rfl ?_
  refine tz_iconst (pc := 15) dX12_begins_15 ?_
  refine tz_pZ (pc := 16) (kz := 33) dX12_begins_16 fl_X12_195 i_164_33 rfl rfl (Or.inl rfl) ?_
  refine tz_aload_n (pc := 19) dX12_begins_19 rfl rfl ?_
  refine tz_iconst (pc := 20) dX12_begins_20 ?_
  refine tz_pI (pc := 21) (kz := 34) dX12_begins_21 fl_X12_208 i_164_34 rfl rfl (by decide) ?_
  exact tz_vret (pc := 24) dX12_begins_24 rfl (Nat.le_of_ble_eq_true rfl) (Nat.le_of_ble_eq_true rfl) ⟨Nat.le_refl _, Nat.le_add_right _ _⟩ ⟨rfl, rfl⟩

set_option maxHeartbeats 4000000 in
set_option maxRecDepth 100000 in
theorem m_refuses {l : Launch} {G : tb_G} (hl : l.stackTraces = false) (n : Nat) (J : zJ) (w : Int) (a : Int) (hr_w : -2147483648 ≤ w ∧ w < 2147483648) (hr_a : -2147483648 ≤ a ∧ a < 2147483648)  (h0 : 0 ≤ w ∧ w < 4) : tz_Ok l G M_X12_refuses 0 0 0 [.ref 164, zi w, zi a] n J (zqi (fun z J' => a = z ∧ zOf (zbut [172]) J' J)) zN := by
  refine tz_Ok.of hl (by decide +kernel) rfl (tb_c1 rfl) (Nat.le_of_ble_eq_true rfl) ?_
  show tz_At l G M_X12_refuses (tb_rm 0 0 0) none (tb_ZM G 0 0 (zQ n 0 (zqi (fun z J' => a = z ∧ zOf (zbut [172]) J' J))) (zX n 0 zN)) 0 0 n J 0 [some (.ref 164), some (zi w), some (zi a)] []
  refine tz_aload_n (pc := 0) dX12_refuses_0 rfl rfl ?_
  refine tz_fR (pc := 1) dX12_refuses_1 fl_X12_31 r_164_7 ?_
  refine tz_iload_n (pc := 4) dX12_refuses_4 rfl rfl ?_
  refine tz_dup2 (pc := 5) dX12_refuses_5 rfl rfl ?_
  refine tz_aL (pc := 6) (z := w) (v := (J 172 w)) dX12_refuses_6 a_172 rfl (by omega) rfl (fun r_6 => ?_)
  refine tz_iconst (pc := 7) dX12_refuses_7 ?_
  refine tz_iadd (pc := 8) (v := (J 172 w) + 1) dX12_refuses_8 rfl ?_
  refine tz_tw ?_
  have rw_9 := zw_rg ((J 172 w) + 1)
  refine tz_aS (pc := 9) (z := w) dX12_refuses_9 a_172 rfl (by omega) (zw_rg _) ?_
  refine tz_iload_n (pc := 10) dX12_refuses_10 rfl rfl ?_
  exact tz_iret (pc := 11) (z := a) dX12_refuses_11 rfl (Nat.le_of_ble_eq_true rfl) (Nat.le_of_ble_eq_true rfl) ⟨Nat.le_refl _, Nat.le_add_right _ _⟩ ⟨_, rfl, (by omega), ⟨rfl, zOf.up rfl zOf.rf⟩⟩

set_option maxHeartbeats 4000000 in
set_option maxRecDepth 100000 in
theorem m_fails {l : Launch} {G : tb_G} (hl : l.stackTraces = false) (n : Nat) (J : zJ) (w : Int) (a : Int) (hr_w : -2147483648 ≤ w ∧ w < 2147483648) (hr_a : -2147483648 ≤ a ∧ a < 2147483648)  (h0 : 0 ≤ w ∧ w < 4) : tz_Ok l G M_X12_fails 1 0 0 [.ref 164, zi w, zi a] n J (zqi (fun z J' => a = z ∧ zOf (zbut [172]) J' (zmv J 165 63 0 63))) zN := by
  refine tz_Ok.of hl (by decide +kernel) rfl (tb_c1 rfl) (Nat.le_of_ble_eq_true rfl) ?_
  show tz_At l G M_X12_fails (tb_rm 1 0 0) none (tb_ZM G 0 0 (zQ n 0 (zqi (fun z J' => a = z ∧ zOf (zbut [172]) J' (zmv J 165 63 0 63)))) (zX n 0 zN)) 0 0 n J 0 [some (.ref 164), some (zi w), some (zi a)] []
  refine tz_aload_n (pc := 0) dX12_fails_0 rfl rfl ?_
  refine tz_bipush (pc := 1) dX12_fails_1 (by decide) ?_
  refine tz_iconst (pc := 3) dX12_fails_3 ?_
  refine tz_bipush (pc := 4) dX12_fails_4 (by decide) ?_
  refine tz_cV (pc := 6) (zm_copies hl n _ _ _ _ (by decide) (by decide) (by decide) (by omega) (by omega)) vl_X12_343 dX12_fails_6 o_164 rfl rfl (Nat.le_of_ble_eq_true rfl) ⟨(Nat.le_of_ble_eq_true rfl), (Nat.le_of_ble_eq_true rfl)⟩ rfl rfl (Nat.le_of_ble_eq_true rfl) (Nat.le_of_ble_eq_true rfl) (fun r9 J_6 hq9 => ?_)
  obtain ⟨rfl, rfl⟩ := hq9
  refine tz_aload_n (pc := 9) dX12_fails_9 rfl rfl ?_
  refine tz_iload_n (pc := 10) dX12_fails_10 rfl rfl ?_
  refine tz_iload_n (pc := 11) dX12_fails_11 rfl rfl ?_
  refine tz_cV (pc := 12) (m_refuses hl n _ _ _ (by omega) (by omega) h0) vl_X12_391 dX12_fails_12 o_164 rfl rfl (Nat.le_of_ble_eq_true rfl) ⟨(Nat.le_of_ble_eq_true rfl), (Nat.le_of_ble_eq_true rfl)⟩ rfl rfl (Nat.le_of_ble_eq_true rfl) (Nat.le_of_ble_eq_true rfl) (fun r9 J_12 hq9 => ?_)
  obtain ⟨z_12, rfl, hz_12, rfl, f1⟩ := hq9
  exact tz_iret (pc := 15) (z := a) dX12_fails_15 rfl (Nat.le_of_ble_eq_true rfl) (Nat.le_of_ble_eq_true rfl) ⟨Nat.le_refl _, Nat.le_add_right _ _⟩ ⟨_, rfl, (by omega), ⟨rfl, f1⟩⟩

set_option maxHeartbeats 4000000 in
set_option maxRecDepth 100000 in
theorem m_keptAt {l : Launch} {G : tb_G} (hl : l.stackTraces = false) (n : Nat) (J : zJ) (a : Int) (b : Int) (hr_a : -2147483648 ≤ a ∧ a < 2147483648) (hr_b : -2147483648 ≤ b ∧ b < 2147483648)  (h0 : (0 ≤ a ∧ a < 40) ∧ 0 ≤ b ∧ b ≤ 40) : tz_Ok l G M_X12_keptAt 0 0 0 [zi a, zi b] n J (zqi (fun z J' => J = J' ∧ 189 + 63 * ((a + b) % 40) = z)) zN := by
  refine tz_Ok.of hl (by decide +kernel) rfl (tb_c1 rfl) (Nat.le_of_ble_eq_true rfl) ?_
  show tz_At l G M_X12_keptAt (tb_rm 0 0 0) none (tb_ZM G 0 0 (zQ n 0 (zqi (fun z J' => J = J' ∧ 189 + 63 * ((a + b) % 40) = z))) (zX n 0 zN)) 0 0 n J 0 [some (zi a), some (zi b)] []
  refine tz_sipush (pc := 0) dX12_keptAt_0 (by decide) ?_
  refine tz_bipush (pc := 3) dX12_keptAt_3 (by decide) ?_
  refine tz_iload_n (pc := 5) dX12_keptAt_5 rfl rfl ?_
  refine tz_iload_n (pc := 6) dX12_keptAt_6 rfl rfl ?_
  refine tz_iadd (pc := 7) (v := a + b) dX12_keptAt_7 rfl ?_
  refine tz_bipush (pc := 8) dX12_keptAt_8 (by decide) ?_
  refine tz_irem (pc := 10) (a := (a + b)) (b := 40) (v := ((a + b) % 40)) dX12_keptAt_10 (by omega) (by omega) rfl ?_
  refine tz_imul (pc := 11) (v := 63 * ((a + b) % 40)) dX12_keptAt_11 rfl ?_
  refine tz_iadd (pc := 12) (v := 189 + (63 * ((a + b) % 40))) dX12_keptAt_12 rfl ?_
  exact tz_iret (pc := 13) (z := (189 + (63 * ((a + b) % 40)))) dX12_keptAt_13 rfl (Nat.le_of_ble_eq_true rfl) (Nat.le_of_ble_eq_true rfl) ⟨Nat.le_refl _, Nat.le_add_right _ _⟩ ⟨_, rfl, (by omega), ⟨rfl, rfl⟩⟩

set_option maxHeartbeats 4000000 in
set_option maxRecDepth 100000 in
theorem m_keeps {l : Launch} {G : tb_G} (hl : l.stackTraces = false) (n : Nat) (J : zJ) (a : Int) (hr_a : -2147483648 ≤ a ∧ a < 2147483648)  (h0 : 0 ≤ J 164 10 ∧ J 164 10 ≤ 40) (h1 : 0 ≤ J 164 11 ∧ J 164 11 < 40) : tz_Ok l G M_X12_keeps 2 0 0 [.ref 164, zi a] n J (zqi (fun z J' => (¬ J 164 21 = 0 ∧ -3 = z ∧ zOf (zbut [172]) J' (zmv J 165 63 0 63)) ∨ (J 164 21 = 0 ∧ a = z ∧ ((¬ J 164 10 = 40 ∧ zkL J = J') ∨ (J 164 10 = 40 ∧ zkF J = J'))))) zN := by
  refine tz_Ok.of hl (by decide +kernel) rfl (tb_c1 rfl) (Nat.le_of_ble_eq_true rfl) ?_
  show tz_At l G M_X12_keeps (tb_rm 2 0 0) none (tb_ZM G 0 0 (zQ n 0 (zqi (fun z J' => (¬ J 164 21 = 0 ∧ -3 = z ∧ zOf (zbut [172]) J' (zmv J 165 63 0 63)) ∨ (J 164 21 = 0 ∧ a = z ∧ ((¬ J 164 10 = 40 ∧ zkL J = J') ∨ (J 164 10 = 40 ∧ zkF J = J')))))) (zX n 0 zN)) 0 0 n J 0 [some (.ref 164), some (zi a)] []
  refine tz_aload_n (pc := 0) dX12_keeps_0 rfl rfl ?_
  refine tz_fI (pc := 1) (kz := 21) (v := (J 164 21)) dX12_keeps_1 fl_X12_92 i_164_21 rfl rfl (fun r_1 => ?_)
  refine tz_if_eq (pc := 4) (tgt := 15) dX12_keeps_4 (by decide) (by omega) (fun h_4 => ?_) (fun h_4 => ?_)
  · refine tz_aload_n (pc := 15) dX12_keeps_15 rfl rfl ?_
    refine tz_fI (pc := 16) (kz := 10) (v := (J 164 10)) dX12_keeps_16 fl_X12_356 i_164_10 rfl rfl (fun r_16 => ?_)
    refine tz_bipush (pc := 19) dX12_keeps_19 (by decide) ?_
    refine tz_icmp_ne (pc := 21) (tgt := 47) dX12_keeps_21 (by decide) (by omega) (by decide) (fun h_21 => ?_) (fun h_21 => ?_)
    · refine tz_aload_n (pc := 47) dX12_keeps_47 rfl rfl ?_
      refine tz_bipush (pc := 48) dX12_keeps_48 (by decide) ?_
      refine tz_aload_n (pc := 50) dX12_keeps_50 rfl rfl ?_
      refine tz_fI (pc := 51) (kz := 11) (v := (J 164 11)) dX12_keeps_51 fl_X12_353 i_164_11 rfl rfl (fun r_51 => ?_)
      refine tz_aload_n (pc := 54) dX12_keeps_54 rfl rfl ?_
      refine tz_fI (pc := 55) (kz := 10) (v := (J 164 10)) dX12_keeps_55 fl_X12_356 i_164_10 rfl rfl (fun r_55 => ?_)
      refine tz_cS (pc := 58) (m_keptAt hl n _ _ _ (by omega) (by omega) (by omega)) sl_X12_397 dX12_keeps_58 rfl rfl (Nat.le_of_ble_eq_true rfl) ⟨(Nat.le_of_ble_eq_true rfl), (Nat.le_of_ble_eq_true rfl)⟩ rfl rfl (Nat.le_of_ble_eq_true rfl) (Nat.le_of_ble_eq_true rfl) (fun r9 J_58 hq9 => ?_)
      obtain ⟨z_58, rfl, hz_58, rfl, rfl⟩ := hq9
      refine tz_bipush (pc := 61) dX12_keeps_61 (by decide) ?_
      refine tz_cV (pc := 63) (zm_copies hl n _ _ _ _ (by decide) (by omega) (by decide) (by omega) (by omega)) vl_X12_343 dX12_keeps_63 o_164 rfl rfl (Nat.le_of_ble_eq_true rfl) ⟨(Nat.le_of_ble_eq_true rfl), (Nat.le_of_ble_eq_true rfl)⟩ rfl rfl (Nat.le_of_ble_eq_true rfl) (Nat.le_of_ble_eq_true rfl) (fun r9 J_63 hq9 => ?_)
      obtain ⟨rfl, rfl⟩ := hq9
      refine tz_aload_n (pc := 66) dX12_keeps_66 rfl rfl ?_
      refine tz_dup (pc := 67) dX12_keeps_67 rfl ?_
      refine tz_fI (pc := 68) (kz := 10) (v := (J 164 10)) dX12_keeps_68 fl_X12_356 i_164_10 rfl rfl (fun r_68 => ?_)
      refine tz_iconst (pc := 71) dX12_keeps_71 ?_
      refine tz_iadd (pc := 72) (v := (J 164 10) + 1) dX12_keeps_72 rfl ?_
      refine tz_pI (pc := 73) (kz := 10) dX12_keeps_73 fl_X12_356 i_164_10 rfl rfl (by omega) ?_
      refine tz_iload_n (pc := 76) dX12_keeps_76 rfl rfl ?_
      exact tz_iret (pc := 77) (z := a) dX12_keeps_77 rfl (Nat.le_of_ble_eq_true rfl) (Nat.le_of_ble_eq_true rfl) ⟨Nat.le_refl _, Nat.le_add_right _ _⟩ ⟨_, rfl, (by omega), Or.inr ⟨by omega, rfl, Or.inl ⟨by omega, rfl⟩⟩⟩
    · refine tz_aload_n (pc := 24) dX12_keeps_24 rfl rfl ?_
      refine tz_aload_n (pc := 25) dX12_keeps_25 rfl rfl ?_
      refine tz_fI (pc := 26) (kz := 11) (v := (J 164 11)) dX12_keeps_26 fl_X12_353 i_164_11 rfl rfl (fun r_26 => ?_)
      refine tz_iconst (pc := 29) dX12_keeps_29 ?_
      refine tz_iadd (pc := 30) (v := (J 164 11) + 1) dX12_keeps_30 rfl ?_
      refine tz_bipush (pc := 31) dX12_keeps_31 (by decide) ?_
      refine tz_irem (pc := 33) (a := ((J 164 11) + 1)) (b := 40) (v := (((J 164 11) + 1) % 40)) dX12_keeps_33 (by omega) (by omega) rfl ?_
      refine tz_pI (pc := 34) (kz := 11) dX12_keeps_34 fl_X12_353 i_164_11 rfl rfl (by omega) ?_
      refine tz_aload_n (pc := 37) dX12_keeps_37 rfl rfl ?_
      refine tz_dup (pc := 38) dX12_keeps_38 rfl ?_
      refine tz_fI (pc := 39) (kz := 10) (v := (J 164 10)) dX12_keeps_39 fl_X12_356 i_164_10 rfl rfl (fun r_39 => ?_)
      refine tz_iconst (pc := 42) dX12_keeps_42 ?_
      refine tz_isub (pc := 43) (v := (J 164 10) - 1) dX12_keeps_43 rfl ?_
      refine tz_pI (pc := 44) (kz := 10) dX12_keeps_44 fl_X12_356 i_164_10 rfl rfl (by omega) ?_
      refine tz_aload_n (pc := 47) dX12_keeps_47 rfl rfl ?_
      refine tz_bipush (pc := 48) dX12_keeps_48 (by decide) ?_
      refine tz_aload_n (pc := 50) dX12_keeps_50 rfl rfl ?_
      refine tz_fI (pc := 51) (kz := 11) (v := (((J 164 11) + 1) % 40)) dX12_keeps_51 fl_X12_353 i_164_11 rfl rfl (fun r_51 => ?_)
      refine tz_aload_n (pc := 54) dX12_keeps_54 rfl rfl ?_
      refine tz_fI (pc := 55) (kz := 10) (v := ((J 164 10) - 1)) dX12_keeps_55 fl_X12_356 i_164_10 rfl rfl (fun r_55 => ?_)
      refine tz_cS (pc := 58) (m_keptAt hl n _ _ _ (by omega) (by omega) (by omega)) sl_X12_397 dX12_keeps_58 rfl rfl (Nat.le_of_ble_eq_true rfl) ⟨(Nat.le_of_ble_eq_true rfl), (Nat.le_of_ble_eq_true rfl)⟩ rfl rfl (Nat.le_of_ble_eq_true rfl) (Nat.le_of_ble_eq_true rfl) (fun r9 J_58 hq9 => ?_)
      obtain ⟨z_58, rfl, hz_58, rfl, rfl⟩ := hq9
      refine tz_bipush (pc := 61) dX12_keeps_61 (by decide) ?_
      refine tz_cV (pc := 63) (zm_copies hl n _ _ _ _ (by decide) (by omega) (by decide) (by omega) (by omega)) vl_X12_343 dX12_keeps_63 o_164 rfl rfl (Nat.le_of_ble_eq_true rfl) ⟨(Nat.le_of_ble_eq_true rfl), (Nat.le_of_ble_eq_true rfl)⟩ rfl rfl (Nat.le_of_ble_eq_true rfl) (Nat.le_of_ble_eq_true rfl) (fun r9 J_63 hq9 => ?_)
      obtain ⟨rfl, rfl⟩ := hq9
      refine tz_aload_n (pc := 66) dX12_keeps_66 rfl rfl ?_
      refine tz_dup (pc := 67) dX12_keeps_67 rfl ?_
      refine tz_fI (pc := 68) (kz := 10) (v := ((J 164 10) - 1)) dX12_keeps_68 fl_X12_356 i_164_10 rfl rfl (fun r_68 => ?_)
      refine tz_iconst (pc := 71) dX12_keeps_71 ?_
      refine tz_iadd (pc := 72) (v := ((J 164 10) - 1) + 1) dX12_keeps_72 rfl ?_
      refine tz_pI (pc := 73) (kz := 10) dX12_keeps_73 fl_X12_356 i_164_10 rfl rfl (by omega) ?_
      refine tz_iload_n (pc := 76) dX12_keeps_76 rfl rfl ?_
      exact tz_iret (pc := 77) (z := a) dX12_keeps_77 rfl (Nat.le_of_ble_eq_true rfl) (Nat.le_of_ble_eq_true rfl) ⟨Nat.le_refl _, Nat.le_add_right _ _⟩ ⟨_, rfl, (by omega), Or.inr ⟨by omega, rfl, Or.inr ⟨by omega, rfl⟩⟩⟩
  · refine tz_aload_n (pc := 7) dX12_keeps_7 rfl rfl ?_
    refine tz_iconst (pc := 8) dX12_keeps_8 ?_
    refine tz_bipush (pc := 9) dX12_keeps_9 (by decide) ?_
    refine tz_cV (pc := 11) (m_fails hl n _ _ _ (by decide) (by decide) (by decide)) vl_X12_394 dX12_keeps_11 o_164 rfl rfl (Nat.le_of_ble_eq_true rfl) ⟨(Nat.le_of_ble_eq_true rfl), (Nat.le_of_ble_eq_true rfl)⟩ rfl rfl (Nat.le_of_ble_eq_true rfl) (Nat.le_of_ble_eq_true rfl) (fun r9 J_11 hq9 => ?_)
    obtain ⟨z_11, rfl, hz_11, rfl, f1⟩ := hq9
    exact tz_iret (pc := 14) (z := (-3)) dX12_keeps_14 rfl (Nat.le_of_ble_eq_true rfl) (Nat.le_of_ble_eq_true rfl) ⟨Nat.le_refl _, Nat.le_add_right _ _⟩ ⟨_, rfl, (by omega), Or.inl ⟨by omega, rfl, f1⟩⟩

end
section
set_option maxHeartbeats 4000000 in
set_option maxRecDepth 100000 in
theorem m_within {l : Launch} {G : tb_G} (hl : l.stackTraces = false) (n : Nat) (J : zJ) (x : Int) (a : Int) (b : Int) (hr_x : -2147483648 ≤ x ∧ x < 2147483648) (hr_a : -2147483648 ≤ a ∧ a < 2147483648) (hr_b : -2147483648 ≤ b ∧ b < 2147483648)   : tz_Ok l G M_X12_within 0 0 0 [zi x, zi a, zi b] n J (zqi (fun z J' => J = J' ∧ ((z = 1 ∧ a ≤ x ∧ x ≤ b) ∨ (z = 0 ∧ ¬ (a ≤ x ∧ x ≤ b))))) zN := by
  refine tz_Ok.of hl (by decide +kernel) rfl (tb_c1 rfl) (Nat.le_of_ble_eq_true rfl) ?_
  show tz_At l G M_X12_within (tb_rm 0 0 0) none (tb_ZM G 0 0 (zQ n 0 (zqi (fun z J' => J = J' ∧ ((z = 1 ∧ a ≤ x ∧ x ≤ b) ∨ (z = 0 ∧ ¬ (a ≤ x ∧ x ≤ b)))))) (zX n 0 zN)) 0 0 n J 0 [some (zi x), some (zi a), some (zi b)] []
  refine tz_iload_n (pc := 0) dX12_within_0 rfl rfl ?_
  refine tz_iload_n (pc := 1) dX12_within_1 rfl rfl ?_
  refine tz_icmp_lt (pc := 2) (tgt := 14) dX12_within_2 (by decide) (by omega) (by omega) (fun h_2 => ?_) (fun h_2 => ?_)
  · refine tz_iconst (pc := 14) dX12_within_14 ?_
    exact tz_zret (pc := 15) (z := 0) dX12_within_15 rfl (Or.inl rfl) (Nat.le_of_ble_eq_true rfl) (Nat.le_of_ble_eq_true rfl) ⟨Nat.le_refl _, Nat.le_add_right _ _⟩ ⟨_, rfl, (by decide), ⟨rfl, by omega⟩⟩
  · refine tz_iload_n (pc := 5) dX12_within_5 rfl rfl ?_
    refine tz_iload_n (pc := 6) dX12_within_6 rfl rfl ?_
    refine tz_icmp_gt (pc := 7) (tgt := 14) dX12_within_7 (by decide) (by omega) (by omega) (fun h_7 => ?_) (fun h_7 => ?_)
    · refine tz_iconst (pc := 14) dX12_within_14 ?_
      exact tz_zret (pc := 15) (z := 0) dX12_within_15 rfl (Or.inl rfl) (Nat.le_of_ble_eq_true rfl) (Nat.le_of_ble_eq_true rfl) ⟨Nat.le_refl _, Nat.le_add_right _ _⟩ ⟨_, rfl, (by decide), ⟨rfl, by omega⟩⟩
    · refine tz_iconst (pc := 10) dX12_within_10 ?_
      refine tz_goto (pc := 11) (tgt := 15) dX12_within_11 (by decide) ?_
      exact tz_zret (pc := 15) (z := 1) dX12_within_15 rfl (Or.inr rfl) (Nat.le_of_ble_eq_true rfl) (Nat.le_of_ble_eq_true rfl) ⟨Nat.le_refl _, Nat.le_add_right _ _⟩ ⟨_, rfl, (by decide), ⟨rfl, by omega⟩⟩

set_option maxHeartbeats 4000000 in
set_option maxRecDepth 100000 in
theorem m_isTerm {l : Launch} {G : tb_G} (hl : l.stackTraces = false) (n : Nat) (J : zJ) (t : Int) (hr_t : -2147483648 ≤ t ∧ t < 2147483648)  (h0 : 0 ≤ J 165 0) : tz_Ok l G M_X12_isTerm 1 0 0 [.ref 164, zi t] n J (zqi (fun z J' => J = J' ∧ ((z = 1 ∧ 0 ≤ t ∧ t < J 165 0) ∨ (z = 0 ∧ ¬ (0 ≤ t ∧ t < J 165 0))))) zN := by
  refine tz_Ok.of hl (by decide +kernel) rfl (tb_c1 rfl) (Nat.le_of_ble_eq_true rfl) ?_
  show tz_At l G M_X12_isTerm (tb_rm 1 0 0) none (tb_ZM G 0 0 (zQ n 0 (zqi (fun z J' => J = J' ∧ ((z = 1 ∧ 0 ≤ t ∧ t < J 165 0) ∨ (z = 0 ∧ ¬ (0 ≤ t ∧ t < J 165 0)))))) (zX n 0 zN)) 0 0 n J 0 [some (.ref 164), some (zi t)] []
  refine tz_iload_n (pc := 0) dX12_isTerm_0 rfl rfl ?_
  refine tz_iconst (pc := 1) dX12_isTerm_1 ?_
  refine tz_aload_n (pc := 2) dX12_isTerm_2 rfl rfl ?_
  refine tz_fR (pc := 3) dX12_isTerm_3 fl_X12_9 r_164_0 ?_
  refine tz_iconst (pc := 6) dX12_isTerm_6 ?_
  refine tz_aL (pc := 7) (z := 0) (v := (J 165 0)) dX12_isTerm_7 a_165 rfl (by decide) rfl (fun r_7 => ?_)
  refine tz_iconst (pc := 8) dX12_isTerm_8 ?_
  refine tz_isub (pc := 9) (v := (J 165 0) - 1) dX12_isTerm_9 rfl ?_
  refine tz_cS (pc := 10) (m_within hl n _ _ _ _ (by omega) (by decide) (by omega)) sl_X12_283 dX12_isTerm_10 rfl rfl (Nat.le_of_ble_eq_true rfl) ⟨(Nat.le_of_ble_eq_true rfl), (Nat.le_of_ble_eq_true rfl)⟩ rfl rfl (Nat.le_of_ble_eq_true rfl) (Nat.le_of_ble_eq_true rfl) (fun r9 J_10 hq9 => ?_)
  obtain ⟨z_10, rfl, hz_10, rfl, hw⟩ := hq9
  exact tz_zret (pc := 13) (z := z_10) dX12_isTerm_13 rfl (by omega) (Nat.le_of_ble_eq_true rfl) (Nat.le_of_ble_eq_true rfl) ⟨Nat.le_refl _, Nat.le_add_right _ _⟩ ⟨_, rfl, (by omega), ⟨rfl, by omega⟩⟩

set_option maxHeartbeats 4000000 in
set_option maxRecDepth 100000 in
theorem m_isSym {l : Launch} {G : tb_G} (hl : l.stackTraces = false) (n : Nat) (J : zJ) (t : Int) (hr_t : -2147483648 ≤ t ∧ t < 2147483648)  (h0 : 0 ≤ J 164 9) : tz_Ok l G M_X12_isSymbol 1 0 0 [.ref 164, zi t] n J (zqi (fun z J' => J = J' ∧ ((z = 1 ∧ 0 ≤ t ∧ t < J 164 9) ∨ (z = 0 ∧ ¬ (0 ≤ t ∧ t < J 164 9))))) zN := by
  refine tz_Ok.of hl (by decide +kernel) rfl (tb_c1 rfl) (Nat.le_of_ble_eq_true rfl) ?_
  show tz_At l G M_X12_isSymbol (tb_rm 1 0 0) none (tb_ZM G 0 0 (zQ n 0 (zqi (fun z J' => J = J' ∧ ((z = 1 ∧ 0 ≤ t ∧ t < J 164 9) ∨ (z = 0 ∧ ¬ (0 ≤ t ∧ t < J 164 9)))))) (zX n 0 zN)) 0 0 n J 0 [some (.ref 164), some (zi t)] []
  refine tz_iload_n (pc := 0) dX12_isSymbol_0 rfl rfl ?_
  refine tz_iconst (pc := 1) dX12_isSymbol_1 ?_
  refine tz_aload_n (pc := 2) dX12_isSymbol_2 rfl rfl ?_
  refine tz_fI (pc := 3) (kz := 9) (v := (J 164 9)) dX12_isSymbol_3 fl_X12_347 i_164_9 rfl rfl (fun r_3 => ?_)
  refine tz_iconst (pc := 6) dX12_isSymbol_6 ?_
  refine tz_isub (pc := 7) (v := (J 164 9) - 1) dX12_isSymbol_7 rfl ?_
  refine tz_cS (pc := 8) (m_within hl n _ _ _ _ (by omega) (by decide) (by omega)) sl_X12_283 dX12_isSymbol_8 rfl rfl (Nat.le_of_ble_eq_true rfl) ⟨(Nat.le_of_ble_eq_true rfl), (Nat.le_of_ble_eq_true rfl)⟩ rfl rfl (Nat.le_of_ble_eq_true rfl) (Nat.le_of_ble_eq_true rfl) (fun r9 J_8 hq9 => ?_)
  obtain ⟨z_8, rfl, hz_8, rfl, hw⟩ := hq9
  exact tz_zret (pc := 11) (z := z_8) dX12_isSymbol_11 rfl (by omega) (Nat.le_of_ble_eq_true rfl) (Nat.le_of_ble_eq_true rfl) ⟨Nat.le_refl _, Nat.le_add_right _ _⟩ ⟨_, rfl, (by omega), ⟨rfl, by omega⟩⟩

set_option maxHeartbeats 4000000 in
set_option maxRecDepth 100000 in
theorem m_right {l : Launch} {G : tb_G} (hl : l.stackTraces = false) (n : Nat) (J : zJ) (x : Int) (y : Int) (hr_x : -2147483648 ≤ x ∧ x < 2147483648) (hr_y : -2147483648 ≤ y ∧ y < 2147483648)  (hy : ¬ y = 0) : tz_Ok l G M_X12_right 0 0 0 [.ref 164, zi x, zi y] n J (zqi (fun z J' => (zOf (zbut [164]) J' J ∧ ∀ k, ¬ k = 8 → J' 164 k = J 164 k) ∧ (z = 0 ∨ z = 1) ∧ (z = 1 → J = J' ∧ J 164 8 = 0 ∧ (¬ x = 0 ∨ y = 0)))) zN := by
  refine tz_Ok.of hl (by decide +kernel) rfl (tb_c1 rfl) (Nat.le_of_ble_eq_true rfl) ?_
  show tz_At l G M_X12_right (tb_rm 0 0 0) none (tb_ZM G 0 0 (zQ n 0 (zqi (fun z J' => (zOf (zbut [164]) J' J ∧ ∀ k, ¬ k = 8 → J' 164 k = J 164 k) ∧ (z = 0 ∨ z = 1) ∧ (z = 1 → J = J' ∧ J 164 8 = 0 ∧ (¬ x = 0 ∨ y = 0))))) (zX n 0 zN)) 0 0 n J 0 [some (.ref 164), some (zi x), some (zi y)] []
  refine tz_aload_n (pc := 0) dX12_right_0 rfl rfl ?_
  refine tz_fI (pc := 1) (kz := 8) (v := (J 164 8)) dX12_right_1 fl_X12_68 i_164_8 rfl rfl (fun r_1 => ?_)
  refine tz_if_ne (pc := 4) (tgt := 16) dX12_right_4 (by decide) (by omega) (fun h_4 => ?_) (fun h_4 => ?_)
  · refine tz_aload_n (pc := 16) dX12_right_16 rfl rfl ?_
    refine tz_fI (pc := 17) (kz := 8) (v := (J 164 8)) dX12_right_17 fl_X12_68 i_164_8 rfl rfl (fun r_17 => ?_)
    refine tz_if_ne (pc := 20) (tgt := 27) dX12_right_20 (by decide) (by omega) (fun h_20 => ?_) (fun h_20 => ?_)
    · refine tz_iconst (pc := 27) dX12_right_27 ?_
      exact tz_zret (pc := 28) (z := 0) dX12_right_28 rfl (Or.inl rfl) (Nat.le_of_ble_eq_true rfl) (Nat.le_of_ble_eq_true rfl) ⟨Nat.le_refl _, Nat.le_add_right _ _⟩ ⟨_, rfl, (by decide), ⟨⟨zOf.rf, fun _ _ => rfl⟩, by omega, fun q9 => ⟨rfl, by omega, by omega⟩⟩⟩
    · refine tz_iconst (pc := 23) dX12_right_23 ?_
      refine tz_goto (pc := 24) (tgt := 28) dX12_right_24 (by decide) ?_
      exact tz_zret (pc := 28) (z := 1) dX12_right_28 rfl (Or.inr rfl) (Nat.le_of_ble_eq_true rfl) (Nat.le_of_ble_eq_true rfl) ⟨Nat.le_refl _, Nat.le_add_right _ _⟩ ⟨_, rfl, (by decide), ⟨⟨zOf.rf, fun _ _ => rfl⟩, by omega, fun q9 => ⟨rfl, by omega, by omega⟩⟩⟩
  · refine tz_iload_n (pc := 7) dX12_right_7 rfl rfl ?_
    refine tz_if_ne (pc := 8) (tgt := 16) dX12_right_8 (by decide) (by omega) (fun h_8 => ?_) (fun h_8 => ?_)
    · refine tz_aload_n (pc := 16) dX12_right_16 rfl rfl ?_
      refine tz_fI (pc := 17) (kz := 8) (v := (J 164 8)) dX12_right_17 fl_X12_68 i_164_8 rfl rfl (fun r_17 => ?_)
      refine tz_if_ne (pc := 20) (tgt := 27) dX12_right_20 (by decide) (by omega) (fun h_20 => ?_) (fun h_20 => ?_)
      · refine tz_iconst (pc := 27) dX12_right_27 ?_
        exact tz_zret (pc := 28) (z := 0) dX12_right_28 rfl (Or.inl rfl) (Nat.le_of_ble_eq_true rfl) (Nat.le_of_ble_eq_true rfl) ⟨Nat.le_refl _, Nat.le_add_right _ _⟩ ⟨_, rfl, (by decide), ⟨⟨zOf.rf, fun _ _ => rfl⟩, by omega, fun q9 => ⟨rfl, by omega, by omega⟩⟩⟩
      · refine tz_iconst (pc := 23) dX12_right_23 ?_
        refine tz_goto (pc := 24) (tgt := 28) dX12_right_24 (by decide) ?_
        exact tz_zret (pc := 28) (z := 1) dX12_right_28 rfl (Or.inr rfl) (Nat.le_of_ble_eq_true rfl) (Nat.le_of_ble_eq_true rfl) ⟨Nat.le_refl _, Nat.le_add_right _ _⟩ ⟨_, rfl, (by decide), ⟨⟨zOf.rf, fun _ _ => rfl⟩, by omega, fun q9 => ⟨rfl, by omega, by omega⟩⟩⟩
    · refine tz_aload_n (pc := 11) dX12_right_11 rfl rfl ?_
      refine tz_iload_n (pc := 12) dX12_right_12 rfl rfl ?_
      refine tz_pI (pc := 13) (kz := 8) dX12_right_13 fl_X12_68 i_164_8 rfl rfl (by omega) ?_
      refine tz_aload_n (pc := 16) dX12_right_16 rfl rfl ?_
      refine tz_fI (pc := 17) (kz := 8) (v := y) dX12_right_17 fl_X12_68 i_164_8 rfl rfl (fun r_17 => ?_)
      refine tz_if_ne (pc := 20) (tgt := 27) dX12_right_20 (by decide) (by omega) (fun h_20 => ?_) (fun h_20 => ?_)
      · refine tz_iconst (pc := 27) dX12_right_27 ?_
        exact tz_zret (pc := 28) (z := 0) dX12_right_28 rfl (Or.inl rfl) (Nat.le_of_ble_eq_true rfl) (Nat.le_of_ble_eq_true rfl) ⟨Nat.le_refl _, Nat.le_add_right _ _⟩ ⟨_, rfl, (by decide), ⟨⟨zOf.up rfl zOf.rf, fun k hk => zup_ne hk⟩, by omega, fun q9 => by omega⟩⟩
      · refine tz_iconst (pc := 23) dX12_right_23 ?_
        refine tz_goto (pc := 24) (tgt := 28) dX12_right_24 (by decide) ?_
        exact tz_zret (pc := 28) (z := 1) dX12_right_28 rfl (Or.inr rfl) (Nat.le_of_ble_eq_true rfl) (Nat.le_of_ble_eq_true rfl) ⟨Nat.le_refl _, Nat.le_add_right _ _⟩ ⟨_, rfl, (by decide), ⟨⟨zOf.up rfl zOf.rf, fun k hk => zup_ne hk⟩, by omega, fun q9 => by omega⟩⟩

/-! ===== a table is copied ===== -/
def fcy (f : Int → Int) (a b m : Int) : Int → Int := fun k => if b ≤ k ∧ k < b + m then f (a + (k - b)) else f k
theorem fcy_0 {f : Int → Int} {a b : Int} : f = fcy f a b 0 := by
  funext k
  unfold fcy
  rw [if_neg (by omega)]
theorem fcy_s {f g h : Int → Int} {a b i m : Int} (e : g = fcy f a b i) (hi : 0 ≤ i ∧ i < m) (hd : a + m ≤ b ∨ b + m ≤ a) (hh : ∀ k, h k = if k = b + i then g (a + i) else g k) : h = fcy f a b (i + 1) := by
  funext k
  rw [hh k, e]
  have e1 : fcy f a b i (a + i) = f (a + i) := by unfold fcy; rw [if_neg (by omega)]
  rw [e1]
  unfold fcy
  by_cases hk : k = b + i
  · rw [if_pos hk, if_pos (by omega), show a + (k - b) = a + i by omega]
  · rw [if_neg hk]
    by_cases h2 : b ≤ k ∧ k < b + i
    · rw [if_pos h2, if_pos (by omega)]
    · rw [if_neg h2, if_neg (by omega)]
set_option maxHeartbeats 4000000 in
set_option maxRecDepth 100000 in
theorem m_moves {l : Launch} {G : tb_G} (hl : l.stackTraces = false) (n : Nat) (J : zJ) (a : Int) (b : Int) (hr_a : -2147483648 ≤ a ∧ a < 2147483648) (hr_b : -2147483648 ≤ b ∧ b < 2147483648)  (h0 : (0 ≤ a ∧ a ≤ 800) ∧ 0 ≤ b ∧ b ≤ 800) (hd : a + 400 ≤ b ∨ b + 400 ≤ a) : tz_Ok l G M_X12_movesTerms 0 0 0 [.ref 164, zi a, zi b] n J (zqv (fun J' => zOf (zbut [166, 167, 168]) J' J ∧ (J' 166 = fcy (J 166) a b (400) ∧ J' 168 = fcy (J 168) a b (400) ∧ J' 167 = fcy (J 167) (3 * a) (3 * b) (1200)))) zN := by
  refine tz_Ok.of hl (by decide +kernel) rfl (tb_c1 rfl) (Nat.le_of_ble_eq_true rfl) ?_
  show tz_At l G M_X12_movesTerms (tb_rm 0 0 0) none (tb_ZM G 0 0 (zQ n 0 (zqv (fun J' => zOf (zbut [166, 167, 168]) J' J ∧ (J' 166 = fcy (J 166) a b (400) ∧ J' 168 = fcy (J 168) a b (400) ∧ J' 167 = fcy (J 167) (3 * a) (3 * b) (1200))))) (zX n 0 zN)) 0 0 n J 0 [some (.ref 164), some (zi a), some (zi b), none, none] []
  refine tz_iconst (pc := 0) dX12_movesTerms_0 ?_
  refine tz_istore_n (pc := 1) (L2 := [_, _, _, _, _]) dX12_movesTerms_1 rfl (by decide) rfl ?_
  have loop2 : ∀ (f9 : Nat) (i : Int) (d4 : Option Value) (J1 : zJ), ((400 - i).toNat) < f9 → (0 ≤ i ∧ i ≤ 400) → (zOf (zbut [166, 167, 168]) J1 J) → (J1 166 = fcy (J 166) a b (i) ∧ J1 168 = fcy (J 168) a b (i) ∧ J1 167 = fcy (J 167) (3 * a) (3 * b) (3 * i)) → tz_At l G M_X12_movesTerms (tb_rm 0 0 0) none (tb_ZM G 0 0 (zQ n 0 (zqv (fun J' => zOf (zbut [166, 167, 168]) J' J ∧ (J' 166 = fcy (J 166) a b (400) ∧ J' 168 = fcy (J 168) a b (400) ∧ J' 167 = fcy (J 167) (3 * a) (3 * b) (1200))))) (zX n 0 zN)) 0 0 n J1 2 [some (.ref 164), some (zi a), some (zi b), some (zi i), d4] [] := by
    intro f9
    induction f9 with
    | zero => intro i d4 J1 hm9; exact absurd hm9 (Nat.not_lt_zero _)
    | succ f9 ih2 =>
      intro i d4 J1 hm2 hi f1 e1
      refine tz_iload_n (pc := 2) dX12_movesTerms_2 rfl rfl ?_
      refine tz_sipush (pc := 3) dX12_movesTerms_3 (by decide) ?_
      refine tz_icmp_ge (pc := 6) (tgt := 88) dX12_movesTerms_6 (by decide) (by omega) (by decide) (fun h_6 => ?_) (fun h_6 => ?_)
      · exact tz_vret (pc := 88) dX12_movesTerms_88 rfl (Nat.le_of_ble_eq_true rfl) (Nat.le_of_ble_eq_true rfl) ⟨Nat.le_refl _, Nat.le_add_right _ _⟩ ⟨rfl, (by have ei : i = 400 := (by omega); subst ei; exact ⟨f1, e1⟩)⟩
      · refine tz_aload_n (pc := 9) dX12_movesTerms_9 rfl rfl ?_
        refine tz_fR (pc := 10) dX12_movesTerms_10 fl_X12_13 r_164_1 ?_
        refine tz_iload_n (pc := 13) dX12_movesTerms_13 rfl rfl ?_
        refine tz_iload_n (pc := 14) dX12_movesTerms_14 rfl rfl ?_
        refine tz_iadd (pc := 15) (v := b + i) dX12_movesTerms_15 rfl ?_
        refine tz_aload_n (pc := 16) dX12_movesTerms_16 rfl rfl ?_
        refine tz_fR (pc := 17) dX12_movesTerms_17 fl_X12_13 r_164_1 ?_
        refine tz_iload_n (pc := 20) dX12_movesTerms_20 rfl rfl ?_
        refine tz_iload_n (pc := 21) dX12_movesTerms_21 rfl rfl ?_
        refine tz_iadd (pc := 22) (v := a + i) dX12_movesTerms_22 rfl ?_
        refine tz_aL (pc := 23) (z := (a + i)) (v := (J1 166 (a + i))) dX12_movesTerms_23 a_166 rfl (by omega) rfl (fun r_23 => ?_)
        refine tz_aS (pc := 24) (z := (b + i)) dX12_movesTerms_24 a_166 rfl (by omega) (by omega) ?_
        refine tz_aload_n (pc := 25) dX12_movesTerms_25 rfl rfl ?_
        refine tz_fR (pc := 26) dX12_movesTerms_26 fl_X12_19 r_164_3 ?_
        refine tz_iload_n (pc := 29) dX12_movesTerms_29 rfl rfl ?_
        refine tz_iload_n (pc := 30) dX12_movesTerms_30 rfl rfl ?_
        refine tz_iadd (pc := 31) (v := b + i) dX12_movesTerms_31 rfl ?_
        refine tz_aload_n (pc := 32) dX12_movesTerms_32 rfl rfl ?_
        refine tz_fR (pc := 33) dX12_movesTerms_33 fl_X12_19 r_164_3 ?_
        refine tz_iload_n (pc := 36) dX12_movesTerms_36 rfl rfl ?_
        refine tz_iload_n (pc := 37) dX12_movesTerms_37 rfl rfl ?_
        refine tz_iadd (pc := 38) (v := a + i) dX12_movesTerms_38 rfl ?_
        refine tz_aL (pc := 39) (z := (a + i)) (v := (J1 168 (a + i))) dX12_movesTerms_39 a_168 rfl (by omega) rfl (fun r_39 => ?_)
        refine tz_aS (pc := 40) (z := (b + i)) dX12_movesTerms_40 a_168 rfl (by omega) (by omega) ?_
        refine tz_iconst (pc := 41) dX12_movesTerms_41 ?_
        refine tz_istore (pc := 42) (L2 := [_, _, _, _, _]) dX12_movesTerms_42 (by decide) rfl ?_
        have loop44 : ∀ (f9 : Nat) (j : Int) (J2 : zJ), ((3 - j).toNat) < f9 → (0 ≤ j ∧ j ≤ 3) → (zOf (zbut [166, 167, 168]) J2 J) → (J2 166 = fcy (J 166) a b (i + 1) ∧ J2 168 = fcy (J 168) a b (i + 1) ∧ J2 167 = fcy (J 167) (3 * a) (3 * b) (3 * i + j)) → tz_At l G M_X12_movesTerms (tb_rm 0 0 0) none (tb_ZM G 0 0 (zQ n 0 (zqv (fun J' => zOf (zbut [166, 167, 168]) J' J ∧ (J' 166 = fcy (J 166) a b (400) ∧ J' 168 = fcy (J 168) a b (400) ∧ J' 167 = fcy (J 167) (3 * a) (3 * b) (1200))))) (zX n 0 zN)) 0 0 n J2 44 [some (.ref 164), some (zi a), some (zi b), some (zi i), some (zi j)] [] := by
          intro f9
          induction f9 with
          | zero => intro j J2 hm9; exact absurd hm9 (Nat.not_lt_zero _)
          | succ f9 ih44 =>
            intro j J2 hm44 hj f2 e2
            refine tz_iload (pc := 44) dX12_movesTerms_44 rfl ?_
            refine tz_iconst (pc := 46) dX12_movesTerms_46 ?_
            refine tz_icmp_ge (pc := 47) (tgt := 82) dX12_movesTerms_47 (by decide) (by omega) (by decide) (fun h_47 => ?_) (fun h_47 => ?_)
            · refine tz_iinc (pc := 82) (z := i + 1) (L2 := [_, _, _, _, _]) dX12_movesTerms_82 rfl (by omega) rfl ?_
              refine tz_goto (pc := 85) (tgt := 2) dX12_movesTerms_85 (by decide) ?_
              have ej : j = 3 := by omega
              subst ej
              exact ih2 (i + 1) _ _ (by omega) (by omega) f2 ⟨e2.1, e2.2.1, (show 3 * (i + 1) = 3 * i + 3 by omega) ▸ e2.2.2⟩
            · refine tz_aload_n (pc := 50) dX12_movesTerms_50 rfl rfl ?_
              refine tz_fR (pc := 51) dX12_movesTerms_51 fl_X12_16 r_164_2 ?_
              refine tz_iconst (pc := 54) dX12_movesTerms_54 ?_
              refine tz_iload_n (pc := 55) dX12_movesTerms_55 rfl rfl ?_
              refine tz_iload_n (pc := 56) dX12_movesTerms_56 rfl rfl ?_
              refine tz_iadd (pc := 57) (v := b + i) dX12_movesTerms_57 rfl ?_
              refine tz_imul (pc := 58) (v := 3 * (b + i)) dX12_movesTerms_58 rfl ?_
              refine tz_iload (pc := 59) dX12_movesTerms_59 rfl ?_
              refine tz_iadd (pc := 61) (v := (3 * (b + i)) + j) dX12_movesTerms_61 rfl ?_
              refine tz_aload_n (pc := 62) dX12_movesTerms_62 rfl rfl ?_
              refine tz_fR (pc := 63) dX12_movesTerms_63 fl_X12_16 r_164_2 ?_
              refine tz_iconst (pc := 66) dX12_movesTerms_66 ?_
              refine tz_iload_n (pc := 67) dX12_movesTerms_67 rfl rfl ?_
              refine tz_iload_n (pc := 68) dX12_movesTerms_68 rfl rfl ?_
              refine tz_iadd (pc := 69) (v := a + i) dX12_movesTerms_69 rfl ?_
              refine tz_imul (pc := 70) (v := 3 * (a + i)) dX12_movesTerms_70 rfl ?_
              refine tz_iload (pc := 71) dX12_movesTerms_71 rfl ?_
              refine tz_iadd (pc := 73) (v := (3 * (a + i)) + j) dX12_movesTerms_73 rfl ?_
              refine tz_aL (pc := 74) (z := ((3 * (a + i)) + j)) (v := (J2 167 ((3 * (a + i)) + j))) dX12_movesTerms_74 a_167 rfl (by omega) rfl (fun r_74 => ?_)
              refine tz_aS (pc := 75) (z := ((3 * (b + i)) + j)) dX12_movesTerms_75 a_167 rfl (by omega) (by omega) ?_
              refine tz_iinc (pc := 76) (z := j + 1) (L2 := [_, _, _, _, _]) dX12_movesTerms_76 rfl (by omega) rfl ?_
              refine tz_goto (pc := 79) (tgt := 44) dX12_movesTerms_79 (by decide) ?_
              exact ih44 (j + 1) _ (by omega) (by omega) (zOf.up rfl f2) ⟨e2.1, e2.2.1, (show 3 * i + j + 1 = 3 * i + (j + 1) by omega) ▸ fcy_s (m := 1200) e2.2.2 (by omega) (by omega) (fun k => by rw [show 3 * b + (3 * i + j) = 3 * (b + i) + j by omega, show 3 * a + (3 * i + j) = 3 * (a + i) + j by omega]; rfl)⟩
        exact loop44 _ 0 _ (Nat.lt_succ_self _) (by omega) (zOf.up rfl (zOf.up rfl f1)) ⟨fcy_s (m := 400) e1.1 (by omega) hd (fun _ => rfl), fcy_s (m := 400) e1.2.1 (by omega) hd (fun _ => rfl), by rw [Int.add_zero]; exact e1.2.2⟩
  exact loop2 _ 0 none _ (Nat.lt_succ_self _) (by omega) zOf.rf ⟨fcy_0, fcy_0, fcy_0⟩

end
section
/-! ===== reading by the reference ===== -/
def RSz (J : zJ) : Prop := (0 ≤ J 164 37 ∧ J 164 37 ≤ 700) ∧ 0 ≤ J 164 35 ∧ J 164 35 ≤ J 164 37
def rdF (k : Int) : Bool := decide (k = 35 ∨ k = 36 ∨ k = 38 ∨ k = 39 ∨ k = 40 ∨ k = 41 ∨ k = 42)
/-- what a step of the reading changes -/
def RGo (J' J : zJ) : Prop := zOf (zbut [164]) J' J ∧ ∀ k, rdF k = false → J' 164 k = J 164 k
set_option maxHeartbeats 4000000 in
set_option maxRecDepth 100000 in
theorem m_byteAt {l : Launch} {G : tb_G} (hl : l.stackTraces = false) (n : Nat) (J : zJ) (x : Int) (hr_x : -2147483648 ≤ x ∧ x < 2147483648)  (h0 : 0 ≤ x) (h1 : J 164 37 ≤ 700) : tz_Ok l G M_X12_byteAt 0 0 0 [.ref 164, zi x] n J (zqi (fun z J' => J = J' ∧ (J 164 37 ≤ x → z = 0) ∧ (x < J 164 37 → J 173 x = z))) zN := by
  refine tz_Ok.of hl (by decide +kernel) rfl (tb_c1 rfl) (Nat.le_of_ble_eq_true rfl) ?_
  show tz_At l G M_X12_byteAt (tb_rm 0 0 0) none (tb_ZM G 0 0 (zQ n 0 (zqi (fun z J' => J = J' ∧ (J 164 37 ≤ x → z = 0) ∧ (x < J 164 37 → J 173 x = z)))) (zX n 0 zN)) 0 0 n J 0 [some (.ref 164), some (zi x)] []
  refine tz_iload_n (pc := 0) dX12_byteAt_0 rfl rfl ?_
  refine tz_aload_n (pc := 1) dX12_byteAt_1 rfl rfl ?_
  refine tz_fI (pc := 2) (kz := 37) (v := (J 164 37)) dX12_byteAt_2 fl_X12_233 i_164_37 rfl rfl (fun r_2 => ?_)
  refine tz_icmp_ge (pc := 5) (tgt := 17) dX12_byteAt_5 (by decide) (by omega) (by omega) (fun h_5 => ?_) (fun h_5 => ?_)
  · refine tz_iconst (pc := 17) dX12_byteAt_17 ?_
    exact tz_iret (pc := 18) (z := 0) dX12_byteAt_18 rfl (Nat.le_of_ble_eq_true rfl) (Nat.le_of_ble_eq_true rfl) ⟨Nat.le_refl _, Nat.le_add_right _ _⟩ ⟨_, rfl, (by decide), ⟨rfl, fun q9 => by omega, fun q9 => by omega⟩⟩
  · refine tz_aload_n (pc := 8) dX12_byteAt_8 rfl rfl ?_
    refine tz_fR (pc := 9) dX12_byteAt_9 fl_X12_34 r_164_18 ?_
    refine tz_iload_n (pc := 12) dX12_byteAt_12 rfl rfl ?_
    refine tz_aL (pc := 13) (z := x) (v := (J 173 x)) dX12_byteAt_13 a_173 rfl (by omega) rfl (fun r_13 => ?_)
    refine tz_goto (pc := 14) (tgt := 18) dX12_byteAt_14 (by decide) ?_
    exact tz_iret (pc := 18) (z := (J 173 x)) dX12_byteAt_18 rfl (Nat.le_of_ble_eq_true rfl) (Nat.le_of_ble_eq_true rfl) ⟨Nat.le_refl _, Nat.le_add_right _ _⟩ ⟨_, rfl, (by omega), ⟨rfl, fun q9 => by omega, fun q9 => by omega⟩⟩

set_option maxHeartbeats 4000000 in
set_option maxRecDepth 100000 in
theorem m_isLet {l : Launch} {G : tb_G} (hl : l.stackTraces = false) (n : Nat) (J : zJ) (x : Int) (hr_x : -2147483648 ≤ x ∧ x < 2147483648)   : tz_Ok l G M_X12_isLetter 0 0 0 [zi x] n J (zqi (fun z J' => J = J' ∧ ((z = 1 ∧ 97 ≤ x ∧ x ≤ 122) ∨ (z = 0 ∧ ¬ (97 ≤ x ∧ x ≤ 122))))) zN := by
  refine tz_Ok.of hl (by decide +kernel) rfl (tb_c1 rfl) (Nat.le_of_ble_eq_true rfl) ?_
  show tz_At l G M_X12_isLetter (tb_rm 0 0 0) none (tb_ZM G 0 0 (zQ n 0 (zqi (fun z J' => J = J' ∧ ((z = 1 ∧ 97 ≤ x ∧ x ≤ 122) ∨ (z = 0 ∧ ¬ (97 ≤ x ∧ x ≤ 122)))))) (zX n 0 zN)) 0 0 n J 0 [some (zi x)] []
  refine tz_iload_n (pc := 0) dX12_isLetter_0 rfl rfl ?_
  refine tz_bipush (pc := 1) dX12_isLetter_1 (by decide) ?_
  refine tz_icmp_lt (pc := 3) (tgt := 16) dX12_isLetter_3 (by decide) (by omega) (by decide) (fun h_3 => ?_) (fun h_3 => ?_)
  · refine tz_iconst (pc := 16) dX12_isLetter_16 ?_
    exact tz_zret (pc := 17) (z := 0) dX12_isLetter_17 rfl (Or.inl rfl) (Nat.le_of_ble_eq_true rfl) (Nat.le_of_ble_eq_true rfl) ⟨Nat.le_refl _, Nat.le_add_right _ _⟩ ⟨_, rfl, (by decide), ⟨rfl, by omega⟩⟩
  · refine tz_iload_n (pc := 6) dX12_isLetter_6 rfl rfl ?_
    refine tz_bipush (pc := 7) dX12_isLetter_7 (by decide) ?_
    refine tz_icmp_gt (pc := 9) (tgt := 16) dX12_isLetter_9 (by decide) (by omega) (by decide) (fun h_9 => ?_) (fun h_9 => ?_)
    · refine tz_iconst (pc := 16) dX12_isLetter_16 ?_
      exact tz_zret (pc := 17) (z := 0) dX12_isLetter_17 rfl (Or.inl rfl) (Nat.le_of_ble_eq_true rfl) (Nat.le_of_ble_eq_true rfl) ⟨Nat.le_refl _, Nat.le_add_right _ _⟩ ⟨_, rfl, (by decide), ⟨rfl, by omega⟩⟩
    · refine tz_iconst (pc := 12) dX12_isLetter_12 ?_
      refine tz_goto (pc := 13) (tgt := 17) dX12_isLetter_13 (by decide) ?_
      exact tz_zret (pc := 17) (z := 1) dX12_isLetter_17 rfl (Or.inr rfl) (Nat.le_of_ble_eq_true rfl) (Nat.le_of_ble_eq_true rfl) ⟨Nat.le_refl _, Nat.le_add_right _ _⟩ ⟨_, rfl, (by decide), ⟨rfl, by omega⟩⟩

set_option maxHeartbeats 4000000 in
set_option maxRecDepth 100000 in
theorem m_isSgn {l : Launch} {G : tb_G} (hl : l.stackTraces = false) (n : Nat) (J : zJ) (x : Int) (hr_x : -2147483648 ≤ x ∧ x < 2147483648)   : tz_Ok l G M_X12_isSignByte 0 0 0 [.ref 164, zi x] n J (zqi (fun z J' => J = J' ∧ (z = 0 ∨ z = 1))) zN := by
  refine tz_Ok.of hl (by decide +kernel) rfl (tb_c1 rfl) (Nat.le_of_ble_eq_true rfl) ?_
  show tz_At l G M_X12_isSignByte (tb_rm 0 0 0) none (tb_ZM G 0 0 (zQ n 0 (zqi (fun z J' => J = J' ∧ (z = 0 ∨ z = 1)))) (zX n 0 zN)) 0 0 n J 0 [some (.ref 164), some (zi x)] []
  refine tz_iload_n (pc := 0) dX12_isSignByte_0 rfl rfl ?_
  refine tz_bipush (pc := 1) dX12_isSignByte_1 (by decide) ?_
  refine tz_icmp_eq (pc := 3) (tgt := 30) dX12_isSignByte_3 (by decide) (by omega) (by decide) (fun h_3 => ?_) (fun h_3 => ?_)
  · refine tz_iconst (pc := 30) dX12_isSignByte_30 ?_
    refine tz_goto (pc := 31) (tgt := 35) dX12_isSignByte_31 (by decide) ?_
    exact tz_zret (pc := 35) (z := 1) dX12_isSignByte_35 rfl (Or.inr rfl) (Nat.le_of_ble_eq_true rfl) (Nat.le_of_ble_eq_true rfl) ⟨Nat.le_refl _, Nat.le_add_right _ _⟩ ⟨_, rfl, (by decide), ⟨rfl, by omega⟩⟩
  · refine tz_iload_n (pc := 6) dX12_isSignByte_6 rfl rfl ?_
    refine tz_bipush (pc := 7) dX12_isSignByte_7 (by decide) ?_
    refine tz_icmp_eq (pc := 9) (tgt := 30) dX12_isSignByte_9 (by decide) (by omega) (by decide) (fun h_9 => ?_) (fun h_9 => ?_)
    · refine tz_iconst (pc := 30) dX12_isSignByte_30 ?_
      refine tz_goto (pc := 31) (tgt := 35) dX12_isSignByte_31 (by decide) ?_
      exact tz_zret (pc := 35) (z := 1) dX12_isSignByte_35 rfl (Or.inr rfl) (Nat.le_of_ble_eq_true rfl) (Nat.le_of_ble_eq_true rfl) ⟨Nat.le_refl _, Nat.le_add_right _ _⟩ ⟨_, rfl, (by decide), ⟨rfl, by omega⟩⟩
    · refine tz_iload_n (pc := 12) dX12_isSignByte_12 rfl rfl ?_
      refine tz_bipush (pc := 13) dX12_isSignByte_13 (by decide) ?_
      refine tz_icmp_eq (pc := 15) (tgt := 30) dX12_isSignByte_15 (by decide) (by omega) (by decide) (fun h_15 => ?_) (fun h_15 => ?_)
      · refine tz_iconst (pc := 30) dX12_isSignByte_30 ?_
        refine tz_goto (pc := 31) (tgt := 35) dX12_isSignByte_31 (by decide) ?_
        exact tz_zret (pc := 35) (z := 1) dX12_isSignByte_35 rfl (Or.inr rfl) (Nat.le_of_ble_eq_true rfl) (Nat.le_of_ble_eq_true rfl) ⟨Nat.le_refl _, Nat.le_add_right _ _⟩ ⟨_, rfl, (by decide), ⟨rfl, by omega⟩⟩
      · refine tz_iload_n (pc := 18) dX12_isSignByte_18 rfl rfl ?_
        refine tz_bipush (pc := 19) dX12_isSignByte_19 (by decide) ?_
        refine tz_icmp_eq (pc := 21) (tgt := 30) dX12_isSignByte_21 (by decide) (by omega) (by decide) (fun h_21 => ?_) (fun h_21 => ?_)
        · refine tz_iconst (pc := 30) dX12_isSignByte_30 ?_
          refine tz_goto (pc := 31) (tgt := 35) dX12_isSignByte_31 (by decide) ?_
          exact tz_zret (pc := 35) (z := 1) dX12_isSignByte_35 rfl (Or.inr rfl) (Nat.le_of_ble_eq_true rfl) (Nat.le_of_ble_eq_true rfl) ⟨Nat.le_refl _, Nat.le_add_right _ _⟩ ⟨_, rfl, (by decide), ⟨rfl, by omega⟩⟩
        · refine tz_iload_n (pc := 24) dX12_isSignByte_24 rfl rfl ?_
          refine tz_bipush (pc := 25) dX12_isSignByte_25 (by decide) ?_
          refine tz_icmp_ne (pc := 27) (tgt := 34) dX12_isSignByte_27 (by decide) (by omega) (by decide) (fun h_27 => ?_) (fun h_27 => ?_)
          · refine tz_iconst (pc := 34) dX12_isSignByte_34 ?_
            exact tz_zret (pc := 35) (z := 0) dX12_isSignByte_35 rfl (Or.inl rfl) (Nat.le_of_ble_eq_true rfl) (Nat.le_of_ble_eq_true rfl) ⟨Nat.le_refl _, Nat.le_add_right _ _⟩ ⟨_, rfl, (by decide), ⟨rfl, by omega⟩⟩
          · refine tz_iconst (pc := 30) dX12_isSignByte_30 ?_
            refine tz_goto (pc := 31) (tgt := 35) dX12_isSignByte_31 (by decide) ?_
            exact tz_zret (pc := 35) (z := 1) dX12_isSignByte_35 rfl (Or.inr rfl) (Nat.le_of_ble_eq_true rfl) (Nat.le_of_ble_eq_true rfl) ⟨Nat.le_refl _, Nat.le_add_right _ _⟩ ⟨_, rfl, (by decide), ⟨rfl, by omega⟩⟩

set_option maxHeartbeats 4000000 in
set_option maxRecDepth 100000 in
theorem m_wants {l : Launch} {G : tb_G} (hl : l.stackTraces = false) (n : Nat) (J : zJ) (x : Int) (y : Int) (hr_x : -2147483648 ≤ x ∧ x < 2147483648) (hr_y : -2147483648 ≤ y ∧ y < 2147483648)  (hy : ¬ y = 0) : tz_Ok l G M_X12_wants 0 0 0 [.ref 164, zi x, zi y] n J (zqi (fun z J' => (zOf (zbut [164]) J' J ∧ ∀ k, ¬ k = 43 → ¬ k = 20 → J' 164 k = J 164 k) ∧ (z = 0 ∨ z = 1) ∧ (z = 1 → J = J' ∧ J 164 43 = 0 ∧ ¬ x = 0) ∧ (z = 0 → ¬ J' 164 43 = 0))) zN := by
  refine tz_Ok.of hl (by decide +kernel) rfl (tb_c1 rfl) (Nat.le_of_ble_eq_true rfl) ?_
  show tz_At l G M_X12_wants (tb_rm 0 0 0) none (tb_ZM G 0 0 (zQ n 0 (zqi (fun z J' => (zOf (zbut [164]) J' J ∧ ∀ k, ¬ k = 43 → ¬ k = 20 → J' 164 k = J 164 k) ∧ (z = 0 ∨ z = 1) ∧ (z = 1 → J = J' ∧ J 164 43 = 0 ∧ ¬ x = 0) ∧ (z = 0 → ¬ J' 164 43 = 0)))) (zX n 0 zN)) 0 0 n J 0 [some (.ref 164), some (zi x), some (zi y)] []
  refine tz_aload_n (pc := 0) dX12_wants_0 rfl rfl ?_
  refine tz_fI (pc := 1) (kz := 43) (v := (J 164 43)) dX12_wants_1 fl_X12_273 i_164_43 rfl rfl (fun r_1 => ?_)
  refine tz_if_ne (pc := 4) (tgt := 24) dX12_wants_4 (by decide) (by omega) (fun h_4 => ?_) (fun h_4 => ?_)
  · refine tz_aload_n (pc := 24) dX12_wants_24 rfl rfl ?_
    refine tz_fI (pc := 25) (kz := 43) (v := (J 164 43)) dX12_wants_25 fl_X12_273 i_164_43 rfl rfl (fun r_25 => ?_)
    refine tz_if_ne (pc := 28) (tgt := 35) dX12_wants_28 (by decide) (by omega) (fun h_28 => ?_) (fun h_28 => ?_)
    · refine tz_iconst (pc := 35) dX12_wants_35 ?_
      exact tz_zret (pc := 36) (z := 0) dX12_wants_36 rfl (Or.inl rfl) (Nat.le_of_ble_eq_true rfl) (Nat.le_of_ble_eq_true rfl) ⟨Nat.le_refl _, Nat.le_add_right _ _⟩ ⟨_, rfl, (by decide), ⟨⟨zOf.rf, fun _ _ _ => rfl⟩, by omega, fun q9 => ⟨rfl, by omega, by omega⟩, fun q9 => by omega⟩⟩
    · refine tz_iconst (pc := 31) dX12_wants_31 ?_
      refine tz_goto (pc := 32) (tgt := 36) dX12_wants_32 (by decide) ?_
      exact tz_zret (pc := 36) (z := 1) dX12_wants_36 rfl (Or.inr rfl) (Nat.le_of_ble_eq_true rfl) (Nat.le_of_ble_eq_true rfl) ⟨Nat.le_refl _, Nat.le_add_right _ _⟩ ⟨_, rfl, (by decide), ⟨⟨zOf.rf, fun _ _ _ => rfl⟩, by omega, fun q9 => ⟨rfl, by omega, by omega⟩, fun q9 => by omega⟩⟩
  · refine tz_iload_n (pc := 7) dX12_wants_7 rfl rfl ?_
    refine tz_if_ne (pc := 8) (tgt := 24) dX12_wants_8 (by decide) (by omega) (fun h_8 => ?_) (fun h_8 => ?_)
    · refine tz_aload_n (pc := 24) dX12_wants_24 rfl rfl ?_
      refine tz_fI (pc := 25) (kz := 43) (v := (J 164 43)) dX12_wants_25 fl_X12_273 i_164_43 rfl rfl (fun r_25 => ?_)
      refine tz_if_ne (pc := 28) (tgt := 35) dX12_wants_28 (by decide) (by omega) (fun h_28 => ?_) (fun h_28 => ?_)
      · refine tz_iconst (pc := 35) dX12_wants_35 ?_
        exact tz_zret (pc := 36) (z := 0) dX12_wants_36 rfl (Or.inl rfl) (Nat.le_of_ble_eq_true rfl) (Nat.le_of_ble_eq_true rfl) ⟨Nat.le_refl _, Nat.le_add_right _ _⟩ ⟨_, rfl, (by decide), ⟨⟨zOf.rf, fun _ _ _ => rfl⟩, by omega, fun q9 => ⟨rfl, by omega, by omega⟩, fun q9 => by omega⟩⟩
      · refine tz_iconst (pc := 31) dX12_wants_31 ?_
        refine tz_goto (pc := 32) (tgt := 36) dX12_wants_32 (by decide) ?_
        exact tz_zret (pc := 36) (z := 1) dX12_wants_36 rfl (Or.inr rfl) (Nat.le_of_ble_eq_true rfl) (Nat.le_of_ble_eq_true rfl) ⟨Nat.le_refl _, Nat.le_add_right _ _⟩ ⟨_, rfl, (by decide), ⟨⟨zOf.rf, fun _ _ _ => rfl⟩, by omega, fun q9 => ⟨rfl, by omega, by omega⟩, fun q9 => by omega⟩⟩
    · refine tz_aload_n (pc := 11) dX12_wants_11 rfl rfl ?_
      refine tz_iload_n (pc := 12) dX12_wants_12 rfl rfl ?_
      refine tz_pI (pc := 13) (kz := 43) dX12_wants_13 fl_X12_273 i_164_43 rfl rfl (by omega) ?_
      refine tz_aload_n (pc := 16) dX12_wants_16 rfl rfl ?_
      refine tz_aload_n (pc := 17) dX12_wants_17 rfl rfl ?_
      refine tz_fI (pc := 18) (kz := 36) (v := (J 164 36)) dX12_wants_18 fl_X12_246 i_164_36 rfl rfl (fun r_18 => ?_)
      refine tz_pI (pc := 21) (kz := 20) dX12_wants_21 fl_X12_37 i_164_20 rfl rfl (by omega) ?_
      refine tz_aload_n (pc := 24) dX12_wants_24 rfl rfl ?_
      refine tz_fI (pc := 25) (kz := 43) (v := y) dX12_wants_25 fl_X12_273 i_164_43 rfl rfl (fun r_25 => ?_)
      refine tz_if_ne (pc := 28) (tgt := 35) dX12_wants_28 (by decide) (by omega) (fun h_28 => ?_) (fun h_28 => ?_)
      · refine tz_iconst (pc := 35) dX12_wants_35 ?_
        exact tz_zret (pc := 36) (z := 0) dX12_wants_36 rfl (Or.inl rfl) (Nat.le_of_ble_eq_true rfl) (Nat.le_of_ble_eq_true rfl) ⟨Nat.le_refl _, Nat.le_add_right _ _⟩ ⟨_, rfl, (by decide), ⟨⟨zOf.up rfl (zOf.up rfl zOf.rf), fun k h1 h2 => (zup_ne h2).trans (zup_ne h1)⟩, by omega, fun q9 => by omega, fun q9 => by show ¬ zup J 164 43 y 164 43 = 0; rw [zup_at]; exact hy⟩⟩
      · refine tz_iconst (pc := 31) dX12_wants_31 ?_
        refine tz_goto (pc := 32) (tgt := 36) dX12_wants_32 (by decide) ?_
        exact tz_zret (pc := 36) (z := 1) dX12_wants_36 rfl (Or.inr rfl) (Nat.le_of_ble_eq_true rfl) (Nat.le_of_ble_eq_true rfl) ⟨Nat.le_refl _, Nat.le_add_right _ _⟩ ⟨_, rfl, (by decide), ⟨⟨zOf.up rfl (zOf.up rfl zOf.rf), fun k h1 h2 => (zup_ne h2).trans (zup_ne h1)⟩, by omega, fun q9 => by omega, fun q9 => by show ¬ zup J 164 43 y 164 43 = 0; rw [zup_at]; exact hy⟩⟩

set_option maxHeartbeats 4000000 in
set_option maxRecDepth 100000 in
theorem m_symOf {l : Launch} {G : tb_G} (hl : l.stackTraces = false) (n : Nat) (J : zJ) (x : Int) (hr_x : -2147483648 ≤ x ∧ x < 2147483648)  (h0 : 0 ≤ J 164 44 ∧ J 164 44 ≤ 10) : tz_Ok l G M_X12_symbolOf 0 0 0 [.ref 164, zi x] n J (zqi (fun z J' => J = J' ∧ (z = -1 ∨ (0 ≤ z ∧ z < J 164 44)))) zN := by
  refine tz_Ok.of hl (by decide +kernel) rfl (tb_c1 rfl) (Nat.le_of_ble_eq_true rfl) ?_
  show tz_At l G M_X12_symbolOf (tb_rm 0 0 0) none (tb_ZM G 0 0 (zQ n 0 (zqi (fun z J' => J = J' ∧ (z = -1 ∨ (0 ≤ z ∧ z < J 164 44))))) (zX n 0 zN)) 0 0 n J 0 [some (.ref 164), some (zi x), none] []
  refine tz_iconst (pc := 0) dX12_symbolOf_0 ?_
  refine tz_istore_n (pc := 1) (L2 := [_, _, _]) dX12_symbolOf_1 rfl (by decide) rfl ?_
  have loop2 : ∀ (f9 : Nat) (k : Int), ((10 - k).toNat) < f9 → (0 ≤ k ∧ k ≤ 10) → tz_At l G M_X12_symbolOf (tb_rm 0 0 0) none (tb_ZM G 0 0 (zQ n 0 (zqi (fun z J' => J = J' ∧ (z = -1 ∨ (0 ≤ z ∧ z < J 164 44))))) (zX n 0 zN)) 0 0 n J 2 [some (.ref 164), some (zi x), some (zi k)] [] := by
    intro f9
    induction f9 with
    | zero => intro k hm9; exact absurd hm9 (Nat.not_lt_zero _)
    | succ f9 ih2 =>
      intro k hm2 hk
      refine tz_iload_n (pc := 2) dX12_symbolOf_2 rfl rfl ?_
      refine tz_aload_n (pc := 3) dX12_symbolOf_3 rfl rfl ?_
      refine tz_fI (pc := 4) (kz := 44) (v := (J 164 44)) dX12_symbolOf_4 fl_X12_287 i_164_44 rfl rfl (fun r_4 => ?_)
      refine tz_icmp_ge (pc := 7) (tgt := 31) dX12_symbolOf_7 (by decide) (by omega) (by omega) (fun h_7 => ?_) (fun h_7 => ?_)
      · refine tz_iconst (pc := 31) dX12_symbolOf_31 ?_
        exact tz_iret (pc := 32) (z := (-1)) dX12_symbolOf_32 rfl (Nat.le_of_ble_eq_true rfl) (Nat.le_of_ble_eq_true rfl) ⟨Nat.le_refl _, Nat.le_add_right _ _⟩ ⟨_, rfl, (by decide), ⟨rfl, by omega⟩⟩
      · refine tz_aload_n (pc := 10) dX12_symbolOf_10 rfl rfl ?_
        refine tz_fR (pc := 11) dX12_symbolOf_11 fl_X12_22 r_164_4 ?_
        refine tz_bipush (pc := 14) dX12_symbolOf_14 (by decide) ?_
        refine tz_iload_n (pc := 16) dX12_symbolOf_16 rfl rfl ?_
        refine tz_iadd (pc := 17) (v := 10 + k) dX12_symbolOf_17 rfl ?_
        refine tz_aL (pc := 18) (z := (10 + k)) (v := (J 169 (10 + k))) dX12_symbolOf_18 a_169 rfl (by omega) rfl (fun r_18 => ?_)
        refine tz_iload_n (pc := 19) dX12_symbolOf_19 rfl rfl ?_
        refine tz_icmp_ne (pc := 20) (tgt := 25) dX12_symbolOf_20 (by decide) (by omega) (by omega) (fun h_20 => ?_) (fun h_20 => ?_)
        · refine tz_iinc (pc := 25) (z := k + 1) (L2 := [_, _, _]) dX12_symbolOf_25 rfl (by omega) rfl ?_
          refine tz_goto (pc := 28) (tgt := 2) dX12_symbolOf_28 (by decide) ?_
          exact ih2 (k + 1) (by omega) (by omega)
        · refine tz_iload_n (pc := 23) dX12_symbolOf_23 rfl rfl ?_
          exact tz_iret (pc := 24) (z := k) dX12_symbolOf_24 rfl (Nat.le_of_ble_eq_true rfl) (Nat.le_of_ble_eq_true rfl) ⟨Nat.le_refl _, Nat.le_add_right _ _⟩ ⟨_, rfl, (by omega), ⟨rfl, by omega⟩⟩
  exact loop2 _ 0 (Nat.lt_succ_self _) (by omega)

set_option maxHeartbeats 4000000 in
set_option maxRecDepth 100000 in
theorem m_wordFrom {l : Launch} {G : tb_G} (hl : l.stackTraces = false) (n : Nat) (J : zJ) (x : Int) (y : Int) (hr_x : -2147483648 ≤ x ∧ x < 2147483648) (hr_y : -2147483648 ≤ y ∧ y < 2147483648)  (h0 : 0 ≤ x ∧ x ≤ 700) (h1 : J 164 37 ≤ 700) (h2 : y ≤ 700) : tz_Ok l G M_X12_wordFrom 1 0 0 [.ref 164, zi x, zi y] n J (zqi (fun z J' => J = J' ∧ -1 ≤ z)) zN := by
  refine tz_Ok.of hl (by decide +kernel) rfl (tb_c1 rfl) (Nat.le_of_ble_eq_true rfl) ?_
  show tz_At l G M_X12_wordFrom (tb_rm 1 0 0) none (tb_ZM G 0 0 (zQ n 0 (zqi (fun z J' => J = J' ∧ -1 ≤ z))) (zX n 0 zN)) 0 0 n J 0 [some (.ref 164), some (zi x), some (zi y), none, none, none, none] []
  refine tz_iconst (pc := 0) dX12_wordFrom_0 ?_
  refine tz_istore_n (pc := 1) (L2 := [_, _, _, _, _, _, _]) dX12_wordFrom_1 rfl (by decide) rfl ?_
  refine tz_iload_n (pc := 2) dX12_wordFrom_2 rfl rfl ?_
  refine tz_istore (pc := 3) (L2 := [_, _, _, _, _, _, _]) dX12_wordFrom_3 (by decide) rfl ?_
  refine tz_iconst (pc := 5) dX12_wordFrom_5 ?_
  refine tz_istore (pc := 6) (L2 := [_, _, _, _, _, _, _]) dX12_wordFrom_6 (by decide) rfl ?_
  refine tz_iconst (pc := 8) dX12_wordFrom_8 ?_
  refine tz_istore (pc := 9) (L2 := [_, _, _, _, _, _, _]) dX12_wordFrom_9 (by decide) rfl ?_
  have loop11 : ∀ (f9 : Nat) (q : Int) (p : Int) (e : Int) (k : Int), ((31 - k).toNat) < f9 → (0 ≤ q ∧ q ≤ k) → (0 ≤ p ∧ p ≤ 700 + k) → (e = 0 ∨ e = 1) → (0 ≤ k ∧ k ≤ 31) → tz_At l G M_X12_wordFrom (tb_rm 1 0 0) none (tb_ZM G 0 0 (zQ n 0 (zqi (fun z J' => J = J' ∧ -1 ≤ z))) (zX n 0 zN)) 0 0 n J 11 [some (.ref 164), some (zi x), some (zi y), some (zi q), some (zi p), some (zi e), some (zi k)] [] := by
    intro f9
    induction f9 with
    | zero => intro q p e k hm9; exact absurd hm9 (Nat.not_lt_zero _)
    | succ f9 ih11 =>
      intro q p e k hm11 hq hp he hk
      refine tz_iload (pc := 11) dX12_wordFrom_11 rfl ?_
      refine tz_knL (pc := 13) dX12_wordFrom_13 dX12_wordFrom_16 (by decide +kernel) ?_
      refine tz_icmp_ge (pc := 17) (tgt := 98) dX12_wordFrom_17 (by decide) (by omega) (by decide) (fun h_17 => ?_) (fun h_17 => ?_)
      · refine tz_iconst (pc := 98) dX12_wordFrom_98 ?_
        exact tz_iret (pc := 99) (z := (-1)) dX12_wordFrom_99 rfl (Nat.le_of_ble_eq_true rfl) (Nat.le_of_ble_eq_true rfl) ⟨Nat.le_refl _, Nat.le_add_right _ _⟩ ⟨_, rfl, (by decide), ⟨rfl, by omega⟩⟩
      · obtain ⟨v_20, hv_20⟩ : ∃ v, (tb_kn.getD k.toNat 0).toInt = v := ⟨_, rfl⟩
        have hw_20 : -2147483648 ≤ v_20 ∧ v_20 < 2147483648 := hv_20 ▸ z_rg _
        refine tz_knD (pc := 20) (k9 := k) (v := v_20) (by omega) hv_20 rfl dX12_wordFrom_20 dX12_wordFrom_23 dX12_wordFrom_25 (by decide +kernel) ?_
        refine tz_bipush (pc := 26) dX12_wordFrom_26 (by decide) ?_
        refine tz_icmp_ne (pc := 28) (tgt := 56) dX12_wordFrom_28 (by decide) (by omega) (by decide) (fun h_28 => ?_) (fun h_28 => ?_)
        · refine tz_iload (pc := 56) dX12_wordFrom_56 rfl ?_
          refine tz_if_eq (pc := 58) (tgt := 86) dX12_wordFrom_58 (by decide) (by omega) (fun h_58 => ?_) (fun h_58 => ?_)
          · refine tz_iconst (pc := 86) dX12_wordFrom_86 ?_
            refine tz_istore (pc := 87) (L2 := [_, _, _, _, _, _, _]) dX12_wordFrom_87 (by decide) rfl ?_
            refine tz_iinc (pc := 89) (z := p + 1) (L2 := [_, _, _, _, _, _, _]) dX12_wordFrom_89 rfl (by omega) rfl ?_
            refine tz_iinc (pc := 92) (z := k + 1) (L2 := [_, _, _, _, _, _, _]) dX12_wordFrom_92 rfl (by omega) rfl ?_
            refine tz_goto (pc := 95) (tgt := 11) dX12_wordFrom_95 (by decide) ?_
            exact ih11 _ _ _ (k + 1) (by omega) (by omega) (by omega) (by omega) (by omega)
          · refine tz_iload (pc := 61) dX12_wordFrom_61 rfl ?_
            refine tz_iload_n (pc := 63) dX12_wordFrom_63 rfl rfl ?_
            refine tz_icmp_ge (pc := 64) (tgt := 86) dX12_wordFrom_64 (by decide) (by omega) (by omega) (fun h_64 => ?_) (fun h_64 => ?_)
            · refine tz_iconst (pc := 86) dX12_wordFrom_86 ?_
              refine tz_istore (pc := 87) (L2 := [_, _, _, _, _, _, _]) dX12_wordFrom_87 (by decide) rfl ?_
              refine tz_iinc (pc := 89) (z := p + 1) (L2 := [_, _, _, _, _, _, _]) dX12_wordFrom_89 rfl (by omega) rfl ?_
              refine tz_iinc (pc := 92) (z := k + 1) (L2 := [_, _, _, _, _, _, _]) dX12_wordFrom_92 rfl (by omega) rfl ?_
              refine tz_goto (pc := 95) (tgt := 11) dX12_wordFrom_95 (by decide) ?_
              exact ih11 _ _ _ (k + 1) (by omega) (by omega) (by omega) (by omega) (by omega)
            · refine tz_aload_n (pc := 67) dX12_wordFrom_67 rfl rfl ?_
              refine tz_iload (pc := 68) dX12_wordFrom_68 rfl ?_
              refine tz_cV (pc := 70) (m_byteAt hl n _ _ (by omega) (by omega) h1) vl_X12_240 dX12_wordFrom_70 o_164 rfl rfl (Nat.le_of_ble_eq_true rfl) ⟨(Nat.le_of_ble_eq_true rfl), (Nat.le_of_ble_eq_true rfl)⟩ rfl rfl (Nat.le_of_ble_eq_true rfl) (Nat.le_of_ble_eq_true rfl) (fun r9 J_70 hq9 => ?_)
              obtain ⟨z_70, rfl, hz_70, rfl, hb70, hc70⟩ := hq9
              obtain ⟨v_73, hv_73⟩ : ∃ v, (tb_kn.getD k.toNat 0).toInt = v := ⟨_, rfl⟩
              have hw_73 : -2147483648 ≤ v_73 ∧ v_73 < 2147483648 := hv_73 ▸ z_rg _
              refine tz_knD (pc := 73) (k9 := k) (v := v_73) (by omega) hv_73 rfl dX12_wordFrom_73 dX12_wordFrom_76 dX12_wordFrom_78 (by decide +kernel) ?_
              refine tz_icmp_ne (pc := 79) (tgt := 86) dX12_wordFrom_79 (by decide) (by omega) (by omega) (fun h_79 => ?_) (fun h_79 => ?_)
              · refine tz_iconst (pc := 86) dX12_wordFrom_86 ?_
                refine tz_istore (pc := 87) (L2 := [_, _, _, _, _, _, _]) dX12_wordFrom_87 (by decide) rfl ?_
                refine tz_iinc (pc := 89) (z := p + 1) (L2 := [_, _, _, _, _, _, _]) dX12_wordFrom_89 rfl (by omega) rfl ?_
                refine tz_iinc (pc := 92) (z := k + 1) (L2 := [_, _, _, _, _, _, _]) dX12_wordFrom_92 rfl (by omega) rfl ?_
                refine tz_goto (pc := 95) (tgt := 11) dX12_wordFrom_95 (by decide) ?_
                exact ih11 _ _ _ (k + 1) (by omega) (by omega) (by omega) (by omega) (by omega)
              · refine tz_iconst (pc := 82) dX12_wordFrom_82 ?_
                refine tz_goto (pc := 83) (tgt := 87) dX12_wordFrom_83 (by decide) ?_
                refine tz_istore (pc := 87) (L2 := [_, _, _, _, _, _, _]) dX12_wordFrom_87 (by decide) rfl ?_
                refine tz_iinc (pc := 89) (z := p + 1) (L2 := [_, _, _, _, _, _, _]) dX12_wordFrom_89 rfl (by omega) rfl ?_
                refine tz_iinc (pc := 92) (z := k + 1) (L2 := [_, _, _, _, _, _, _]) dX12_wordFrom_92 rfl (by omega) rfl ?_
                refine tz_goto (pc := 95) (tgt := 11) dX12_wordFrom_95 (by decide) ?_
                exact ih11 _ _ _ (k + 1) (by omega) (by omega) (by omega) (by omega) (by omega)
        · refine tz_iload (pc := 31) dX12_wordFrom_31 rfl ?_
          refine tz_if_eq (pc := 33) (tgt := 44) dX12_wordFrom_33 (by decide) (by omega) (fun h_33 => ?_) (fun h_33 => ?_)
          · refine tz_iinc (pc := 44) (z := q + 1) (L2 := [_, _, _, _, _, _, _]) dX12_wordFrom_44 rfl (by omega) rfl ?_
            refine tz_iload_n (pc := 47) dX12_wordFrom_47 rfl rfl ?_
            refine tz_istore (pc := 48) (L2 := [_, _, _, _, _, _, _]) dX12_wordFrom_48 (by decide) rfl ?_
            refine tz_iconst (pc := 50) dX12_wordFrom_50 ?_
            refine tz_istore (pc := 51) (L2 := [_, _, _, _, _, _, _]) dX12_wordFrom_51 (by decide) rfl ?_
            refine tz_goto (pc := 53) (tgt := 92) dX12_wordFrom_53 (by decide) ?_
            refine tz_iinc (pc := 92) (z := k + 1) (L2 := [_, _, _, _, _, _, _]) dX12_wordFrom_92 rfl (by omega) rfl ?_
            refine tz_goto (pc := 95) (tgt := 11) dX12_wordFrom_95 (by decide) ?_
            exact ih11 _ _ _ (k + 1) (by omega) (by omega) (by omega) (by omega) (by omega)
          · refine tz_iload (pc := 36) dX12_wordFrom_36 rfl ?_
            refine tz_iload_n (pc := 38) dX12_wordFrom_38 rfl rfl ?_
            refine tz_icmp_ne (pc := 39) (tgt := 44) dX12_wordFrom_39 (by decide) (by omega) (by omega) (fun h_39 => ?_) (fun h_39 => ?_)
            · refine tz_iinc (pc := 44) (z := q + 1) (L2 := [_, _, _, _, _, _, _]) dX12_wordFrom_44 rfl (by omega) rfl ?_
              refine tz_iload_n (pc := 47) dX12_wordFrom_47 rfl rfl ?_
              refine tz_istore (pc := 48) (L2 := [_, _, _, _, _, _, _]) dX12_wordFrom_48 (by decide) rfl ?_
              refine tz_iconst (pc := 50) dX12_wordFrom_50 ?_
              refine tz_istore (pc := 51) (L2 := [_, _, _, _, _, _, _]) dX12_wordFrom_51 (by decide) rfl ?_
              refine tz_goto (pc := 53) (tgt := 92) dX12_wordFrom_53 (by decide) ?_
              refine tz_iinc (pc := 92) (z := k + 1) (L2 := [_, _, _, _, _, _, _]) dX12_wordFrom_92 rfl (by omega) rfl ?_
              refine tz_goto (pc := 95) (tgt := 11) dX12_wordFrom_95 (by decide) ?_
              exact ih11 _ _ _ (k + 1) (by omega) (by omega) (by omega) (by omega) (by omega)
            · refine tz_iload_n (pc := 42) dX12_wordFrom_42 rfl rfl ?_
              exact tz_iret (pc := 43) (z := q) dX12_wordFrom_43 rfl (Nat.le_of_ble_eq_true rfl) (Nat.le_of_ble_eq_true rfl) ⟨Nat.le_refl _, Nat.le_add_right _ _⟩ ⟨_, rfl, (by omega), ⟨rfl, by omega⟩⟩
  exact loop11 _ 0 x 1 0 (Nat.lt_succ_self _) (by omega) (by omega) (by omega) (by omega)

end
section
theorem RSz.mk {J' : zJ} {s a : Int} (e7 : J' 164 37 = s) (e5 : J' 164 35 = a) (h : (0 ≤ s ∧ s ≤ 700) ∧ 0 ≤ a ∧ a ≤ s) : RSz J' := by
  unfold RSz
  rw [e7, e5]
  exact h
def rmu (J : zJ) : Int := J 164 37 - J 164 35 + (if J 164 38 = 0 then 0 else 1)
theorem RGo.rf {J : zJ} : RGo J J := ⟨zOf.rf, fun _ _ => rfl⟩
theorem RGo.tr {J3 J2 J1 : zJ} (h : RGo J3 J2) (g : RGo J2 J1) : RGo J3 J1 := ⟨h.1.tr g.1, fun k q => (h.2 k q).trans (g.2 k q)⟩
theorem RGo.up {J' J : zJ} {k v : Int} (h : RGo J' J) (hk : rdF k = true) : RGo (zup J' 164 k v) J := ⟨zOf.up rfl h.1, fun q a => (zup_ne (fun e => by subst e; rw [hk] at a; exact absurd a (by decide))).trans (h.2 q a)⟩
set_option maxHeartbeats 4000000 in
set_option maxRecDepth 100000 in
theorem m_go {l : Launch} {G : tb_G} (hl : l.stackTraces = false) (n : Nat) (J : zJ)    (hS : RSz J) : tz_Ok l G M_X12_go 2 0 0 [.ref 164] n J (zqv (fun J' => RGo J' J ∧ RSz J' ∧ (0 ≤ J' 164 36 ∧ J' 164 36 ≤ 700) ∧ ∃ a9 s9 g9, J' 164 35 = a9 ∧ J' 164 38 = s9 ∧ J' 164 42 = g9 ∧ J 164 35 ≤ a9 ∧ (s9 = 0 ∨ J 164 35 < a9) ∧ (g9 = 0 ∨ ¬ s9 = 0))) zN := by
  refine tz_Ok.of hl (by decide +kernel) rfl (tb_c1 rfl) (Nat.le_of_ble_eq_true rfl) ?_
  show tz_At l G M_X12_go (tb_rm 2 0 0) none (tb_ZM G 0 0 (zQ n 0 (zqv (fun J' => RGo J' J ∧ RSz J' ∧ (0 ≤ J' 164 36 ∧ J' 164 36 ≤ 700) ∧ ∃ a9 s9 g9, J' 164 35 = a9 ∧ J' 164 38 = s9 ∧ J' 164 42 = g9 ∧ J 164 35 ≤ a9 ∧ (s9 = 0 ∨ J 164 35 < a9) ∧ (g9 = 0 ∨ ¬ s9 = 0)))) (zX n 0 zN)) 0 0 n J 0 [some (.ref 164), none] []
  obtain ⟨ra, rb⟩ := id hS
  have loop0 : ∀ (f9 : Nat) (J1 : zJ), ((J 164 37 - J1 164 35).toNat) < f9 → (RGo J1 J) → (RSz J1) → (J 164 35 ≤ J1 164 35) → tz_At l G M_X12_go (tb_rm 2 0 0) none (tb_ZM G 0 0 (zQ n 0 (zqv (fun J' => RGo J' J ∧ RSz J' ∧ (0 ≤ J' 164 36 ∧ J' 164 36 ≤ 700) ∧ ∃ a9 s9 g9, J' 164 35 = a9 ∧ J' 164 38 = s9 ∧ J' 164 42 = g9 ∧ J 164 35 ≤ a9 ∧ (s9 = 0 ∨ J 164 35 < a9) ∧ (g9 = 0 ∨ ¬ s9 = 0)))) (zX n 0 zN)) 0 0 n J1 0 [some (.ref 164), none] [] := by
    intro f9
    induction f9 with
    | zero => intro J1 hm9; exact absurd hm9 (Nat.not_lt_zero _)
    | succ f9 ih0 =>
      intro J1 hm0 f1 rs1 le1
      obtain ⟨ra1, rb1⟩ := id rs1
      rw [f1.2 37 rfl] at ra1 rb1
      refine tz_aload_n (pc := 0) dX12_go_0 rfl rfl ?_
      refine tz_fI (pc := 1) (kz := 35) (v := (J1 164 35)) dX12_go_1 fl_X12_243 i_164_35 rfl rfl (fun r_1 => ?_)
      refine tz_aload_n (pc := 4) dX12_go_4 rfl rfl ?_
      refine tz_fI (pc := 5) (kz := 37) (v := (J 164 37)) dX12_go_5 fl_X12_233 i_164_37 rfl (Eq.trans (f1.2 37 rfl) rfl) (fun r_5 => ?_)
      refine tz_icmp_ge (pc := 8) (tgt := 50) dX12_go_8 (by decide) (by omega) (by omega) (fun h_8 => ?_) (fun h_8 => ?_)
      · refine tz_aload_n (pc := 50) dX12_go_50 rfl rfl ?_
        refine tz_aload_n (pc := 51) dX12_go_51 rfl rfl ?_
        refine tz_fI (pc := 52) (kz := 35) (v := (J1 164 35)) dX12_go_52 fl_X12_243 i_164_35 rfl rfl (fun r_52 => ?_)
        refine tz_pI (pc := 55) (kz := 36) dX12_go_55 fl_X12_246 i_164_36 rfl rfl (by omega) ?_
        refine tz_aload_n (pc := 58) dX12_go_58 rfl rfl ?_
        refine tz_aload_n (pc := 59) dX12_go_59 rfl rfl ?_
        refine tz_fI (pc := 60) (kz := 35) (v := (J1 164 35)) dX12_go_60 fl_X12_243 i_164_35 rfl rfl (fun r_60 => ?_)
        refine tz_cV (pc := 63) (m_byteAt hl n _ _ (by omega) (by omega) (by rw [show ((zup J1 164 36 (J1 164 35)) : zJ) 164 37 = (J 164 37) from (Eq.trans (f1.2 37 rfl) rfl)]; omega)) vl_X12_240 dX12_go_63 o_164 rfl rfl (Nat.le_of_ble_eq_true rfl) ⟨(Nat.le_of_ble_eq_true rfl), (Nat.le_of_ble_eq_true rfl)⟩ rfl rfl (Nat.le_of_ble_eq_true rfl) (Nat.le_of_ble_eq_true rfl) (fun r9 J_63 hq9 => ?_)
        obtain ⟨z_63, rfl, hz_63, rfl, hb_63, hc_63⟩ := hq9
        rw [show ((zup J1 164 36 (J1 164 35)) : zJ) 164 37 = (J 164 37) from (Eq.trans (f1.2 37 rfl) rfl)] at hb_63 hc_63
        refine tz_istore_n (pc := 66) (L2 := [_, _]) dX12_go_66 rfl (by decide) rfl ?_
        refine tz_aload_n (pc := 67) dX12_go_67 rfl rfl ?_
        refine tz_iconst (pc := 68) dX12_go_68 ?_
        refine tz_pI (pc := 69) (kz := 40) dX12_go_69 fl_X12_249 i_164_40 rfl rfl (by decide) ?_
        refine tz_aload_n (pc := 72) dX12_go_72 rfl rfl ?_
        refine tz_iconst (pc := 73) dX12_go_73 ?_
        refine tz_pI (pc := 74) (kz := 41) dX12_go_74 fl_X12_252 i_164_41 rfl rfl (by decide) ?_
        refine tz_aload_n (pc := 77) dX12_go_77 rfl rfl ?_
        refine tz_iconst (pc := 78) dX12_go_78 ?_
        refine tz_pI (pc := 79) (kz := 39) dX12_go_79 fl_X12_255 i_164_39 rfl rfl (by decide) ?_
        refine tz_aload_n (pc := 82) dX12_go_82 rfl rfl ?_
        refine tz_iconst (pc := 83) dX12_go_83 ?_
        refine tz_pI (pc := 84) (kz := 42) dX12_go_84 fl_X12_258 i_164_42 rfl rfl (by decide) ?_
        refine tz_aload_n (pc := 87) dX12_go_87 rfl rfl ?_
        refine tz_fI (pc := 88) (kz := 35) (v := (J1 164 35)) dX12_go_88 fl_X12_243 i_164_35 rfl rfl (fun r_88 => ?_)
        refine tz_aload_n (pc := 91) dX12_go_91 rfl rfl ?_
        refine tz_fI (pc := 92) (kz := 37) (v := (J 164 37)) dX12_go_92 fl_X12_233 i_164_37 rfl (Eq.trans (f1.2 37 rfl) rfl) (fun r_92 => ?_)
        refine tz_icmp_lt (pc := 95) (tgt := 106) dX12_go_95 (by decide) (by omega) (by omega) (fun h_95 => ?_) (fun h_95 => ?_)
        · refine tz_iload_n (pc := 106) dX12_go_106 rfl rfl ?_
          refine tz_cS (pc := 107) (m_isLet hl n _ _ (by omega)) sl_X12_264 dX12_go_107 rfl rfl (Nat.le_of_ble_eq_true rfl) ⟨(Nat.le_of_ble_eq_true rfl), (Nat.le_of_ble_eq_true rfl)⟩ rfl rfl (Nat.le_of_ble_eq_true rfl) (Nat.le_of_ble_eq_true rfl) (fun r9 J_107 hq9 => ?_)
          obtain ⟨z_107, rfl, hz_107, rfl, hl_107⟩ := hq9
          refine tz_if_eq (pc := 110) (tgt := 177) dX12_go_110 (by decide) (by omega) (fun h_110 => ?_) (fun h_110 => ?_)
          · refine tz_iload_n (pc := 177) dX12_go_177 rfl rfl ?_
            refine tz_bipush (pc := 178) dX12_go_178 (by decide) ?_
            refine tz_icmp_lt (pc := 180) (tgt := 268) dX12_go_180 (by decide) (by omega) (by decide) (fun h_180 => ?_) (fun h_180 => ?_)
            · refine tz_aload_n (pc := 268) dX12_go_268 rfl rfl ?_
              refine tz_dup (pc := 269) dX12_go_269 rfl ?_
              refine tz_fI (pc := 270) (kz := 35) (v := (J1 164 35)) dX12_go_270 fl_X12_243 i_164_35 rfl rfl (fun r_270 => ?_)
              refine tz_iconst (pc := 273) dX12_go_273 ?_
              refine tz_iadd (pc := 274) (v := (J1 164 35) + 1) dX12_go_274 rfl ?_
              refine tz_pI (pc := 275) (kz := 35) dX12_go_275 fl_X12_243 i_164_35 rfl rfl (by omega) ?_
              refine tz_aload_n (pc := 278) dX12_go_278 rfl rfl ?_
              refine tz_aload_n (pc := 279) dX12_go_279 rfl rfl ?_
              refine tz_iload_n (pc := 280) dX12_go_280 rfl rfl ?_
              refine tz_cV (pc := 281) (m_isSgn hl n _ _ (by omega)) vl_X12_270 dX12_go_281 o_164 rfl rfl (Nat.le_of_ble_eq_true rfl) ⟨(Nat.le_of_ble_eq_true rfl), (Nat.le_of_ble_eq_true rfl)⟩ rfl rfl (Nat.le_of_ble_eq_true rfl) (Nat.le_of_ble_eq_true rfl) (fun r9 J_281 hq9 => ?_)
              obtain ⟨z_281, rfl, hz_281, rfl, hg⟩ := hq9
              refine tz_if_eq (pc := 284) (tgt := 291) dX12_go_284 (by decide) (by omega) (fun h_284 => ?_) (fun h_284 => ?_)
              · refine tz_iconst (pc := 291) dX12_go_291 ?_
                refine tz_pI (pc := 292) (kz := 38) dX12_go_292 fl_X12_261 i_164_38 rfl rfl (by decide) ?_
                refine tz_aload_n (pc := 295) dX12_go_295 rfl rfl ?_
                refine tz_aload_n (pc := 296) dX12_go_296 rfl rfl ?_
                refine tz_fI (pc := 297) (kz := 38) (v := 4) dX12_go_297 fl_X12_261 i_164_38 rfl rfl (fun _ => ?_)
                refine tz_iconst (pc := 300) dX12_go_300 ?_
                refine tz_icmp_neT (pc := 301) (tgt := 308) (by decide) dX12_go_301 (by decide) (by decide) (by decide) ?_
                refine tz_iconst (pc := 308) dX12_go_308 ?_
                refine tz_pI (pc := 309) (kz := 42) dX12_go_309 fl_X12_258 i_164_42 rfl rfl (by decide) ?_
                exact tz_vret (pc := 312) dX12_go_312 rfl (Nat.le_of_ble_eq_true rfl) (Nat.le_of_ble_eq_true rfl) ⟨Nat.le_refl _, Nat.le_add_right _ _⟩ ⟨rfl, ⟨(RGo.up (k := 42) (RGo.up (k := 38) (RGo.up (k := 35) (RGo.up (k := 42) (RGo.up (k := 39) (RGo.up (k := 41) (RGo.up (k := 40) (RGo.up (k := 36) f1 rfl) rfl) rfl) rfl) rfl) rfl) rfl) rfl), (RSz.mk (s := J 164 37) (a := (J1 164 35) + 1) (Eq.trans (f1.2 37 rfl) rfl) rfl (by omega)), (by rw [show ((zup (zup (zup (zup (zup (zup (zup (zup J1 164 36 (J1 164 35)) 164 40 (-1)) 164 41 0) 164 39 0) 164 42 0) 164 35 ((J1 164 35) + 1)) 164 38 4) 164 42 0) : zJ) 164 36 = (J1 164 35) from rfl]; omega), ((J1 164 35) + 1), 4, 0, rfl, rfl, rfl, by omega, by omega, by omega⟩⟩
              · refine tz_iconst (pc := 287) dX12_go_287 ?_
                refine tz_goto (pc := 288) (tgt := 292) dX12_go_288 (by decide) ?_
                refine tz_pI (pc := 292) (kz := 38) dX12_go_292 fl_X12_261 i_164_38 rfl rfl (by decide) ?_
                refine tz_aload_n (pc := 295) dX12_go_295 rfl rfl ?_
                refine tz_aload_n (pc := 296) dX12_go_296 rfl rfl ?_
                refine tz_fI (pc := 297) (kz := 38) (v := 3) dX12_go_297 fl_X12_261 i_164_38 rfl rfl (fun _ => ?_)
                refine tz_iconst (pc := 300) dX12_go_300 ?_
                refine tz_icmp_neF (pc := 301) (tgt := 308) (by decide) dX12_go_301 (by decide) (by decide) (by decide) ?_
                refine tz_iload_n (pc := 304) dX12_go_304 rfl rfl ?_
                refine tz_goto (pc := 305) (tgt := 309) dX12_go_305 (by decide) ?_
                refine tz_pI (pc := 309) (kz := 42) dX12_go_309 fl_X12_258 i_164_42 rfl rfl (by omega) ?_
                exact tz_vret (pc := 312) dX12_go_312 rfl (Nat.le_of_ble_eq_true rfl) (Nat.le_of_ble_eq_true rfl) ⟨Nat.le_refl _, Nat.le_add_right _ _⟩ ⟨rfl, ⟨(RGo.up (k := 42) (RGo.up (k := 38) (RGo.up (k := 35) (RGo.up (k := 42) (RGo.up (k := 39) (RGo.up (k := 41) (RGo.up (k := 40) (RGo.up (k := 36) f1 rfl) rfl) rfl) rfl) rfl) rfl) rfl) rfl), (RSz.mk (s := J 164 37) (a := (J1 164 35) + 1) (Eq.trans (f1.2 37 rfl) rfl) rfl (by omega)), (by rw [show ((zup (zup (zup (zup (zup (zup (zup (zup J1 164 36 (J1 164 35)) 164 40 (-1)) 164 41 0) 164 39 0) 164 42 0) 164 35 ((J1 164 35) + 1)) 164 38 3) 164 42 z_63) : zJ) 164 36 = (J1 164 35) from rfl]; omega), ((J1 164 35) + 1), 3, z_63, rfl, rfl, rfl, by omega, by omega, by omega⟩⟩
            · refine tz_iload_n (pc := 183) dX12_go_183 rfl rfl ?_
              refine tz_bipush (pc := 184) dX12_go_184 (by decide) ?_
              refine tz_icmp_gt (pc := 186) (tgt := 268) dX12_go_186 (by decide) (by omega) (by decide) (fun h_186 => ?_) (fun h_186 => ?_)
              · refine tz_aload_n (pc := 268) dX12_go_268 rfl rfl ?_
                refine tz_dup (pc := 269) dX12_go_269 rfl ?_
                refine tz_fI (pc := 270) (kz := 35) (v := (J1 164 35)) dX12_go_270 fl_X12_243 i_164_35 rfl rfl (fun r_270 => ?_)
                refine tz_iconst (pc := 273) dX12_go_273 ?_
                refine tz_iadd (pc := 274) (v := (J1 164 35) + 1) dX12_go_274 rfl ?_
                refine tz_pI (pc := 275) (kz := 35) dX12_go_275 fl_X12_243 i_164_35 rfl rfl (by omega) ?_
                refine tz_aload_n (pc := 278) dX12_go_278 rfl rfl ?_
                refine tz_aload_n (pc := 279) dX12_go_279 rfl rfl ?_
                refine tz_iload_n (pc := 280) dX12_go_280 rfl rfl ?_
                refine tz_cV (pc := 281) (m_isSgn hl n _ _ (by omega)) vl_X12_270 dX12_go_281 o_164 rfl rfl (Nat.le_of_ble_eq_true rfl) ⟨(Nat.le_of_ble_eq_true rfl), (Nat.le_of_ble_eq_true rfl)⟩ rfl rfl (Nat.le_of_ble_eq_true rfl) (Nat.le_of_ble_eq_true rfl) (fun r9 J_281 hq9 => ?_)
                obtain ⟨z_281, rfl, hz_281, rfl, hg⟩ := hq9
                refine tz_if_eq (pc := 284) (tgt := 291) dX12_go_284 (by decide) (by omega) (fun h_284 => ?_) (fun h_284 => ?_)
                · refine tz_iconst (pc := 291) dX12_go_291 ?_
                  refine tz_pI (pc := 292) (kz := 38) dX12_go_292 fl_X12_261 i_164_38 rfl rfl (by decide) ?_
                  refine tz_aload_n (pc := 295) dX12_go_295 rfl rfl ?_
                  refine tz_aload_n (pc := 296) dX12_go_296 rfl rfl ?_
                  refine tz_fI (pc := 297) (kz := 38) (v := 4) dX12_go_297 fl_X12_261 i_164_38 rfl rfl (fun _ => ?_)
                  refine tz_iconst (pc := 300) dX12_go_300 ?_
                  refine tz_icmp_neT (pc := 301) (tgt := 308) (by decide) dX12_go_301 (by decide) (by decide) (by decide) ?_
                  refine tz_iconst (pc := 308) dX12_go_308 ?_
                  refine tz_pI (pc := 309) (kz := 42) dX12_go_309 fl_X12_258 i_164_42 rfl rfl (by decide) ?_
                  exact tz_vret (pc := 312) dX12_go_312 rfl (Nat.le_of_ble_eq_true rfl) (Nat.le_of_ble_eq_true rfl) ⟨Nat.le_refl _, Nat.le_add_right _ _⟩ ⟨rfl, ⟨(RGo.up (k := 42) (RGo.up (k := 38) (RGo.up (k := 35) (RGo.up (k := 42) (RGo.up (k := 39) (RGo.up (k := 41) (RGo.up (k := 40) (RGo.up (k := 36) f1 rfl) rfl) rfl) rfl) rfl) rfl) rfl) rfl), (RSz.mk (s := J 164 37) (a := (J1 164 35) + 1) (Eq.trans (f1.2 37 rfl) rfl) rfl (by omega)), (by rw [show ((zup (zup (zup (zup (zup (zup (zup (zup J1 164 36 (J1 164 35)) 164 40 (-1)) 164 41 0) 164 39 0) 164 42 0) 164 35 ((J1 164 35) + 1)) 164 38 4) 164 42 0) : zJ) 164 36 = (J1 164 35) from rfl]; omega), ((J1 164 35) + 1), 4, 0, rfl, rfl, rfl, by omega, by omega, by omega⟩⟩
                · refine tz_iconst (pc := 287) dX12_go_287 ?_
                  refine tz_goto (pc := 288) (tgt := 292) dX12_go_288 (by decide) ?_
                  refine tz_pI (pc := 292) (kz := 38) dX12_go_292 fl_X12_261 i_164_38 rfl rfl (by decide) ?_
                  refine tz_aload_n (pc := 295) dX12_go_295 rfl rfl ?_
                  refine tz_aload_n (pc := 296) dX12_go_296 rfl rfl ?_
                  refine tz_fI (pc := 297) (kz := 38) (v := 3) dX12_go_297 fl_X12_261 i_164_38 rfl rfl (fun _ => ?_)
                  refine tz_iconst (pc := 300) dX12_go_300 ?_
                  refine tz_icmp_neF (pc := 301) (tgt := 308) (by decide) dX12_go_301 (by decide) (by decide) (by decide) ?_
                  refine tz_iload_n (pc := 304) dX12_go_304 rfl rfl ?_
                  refine tz_goto (pc := 305) (tgt := 309) dX12_go_305 (by decide) ?_
                  refine tz_pI (pc := 309) (kz := 42) dX12_go_309 fl_X12_258 i_164_42 rfl rfl (by omega) ?_
                  exact tz_vret (pc := 312) dX12_go_312 rfl (Nat.le_of_ble_eq_true rfl) (Nat.le_of_ble_eq_true rfl) ⟨Nat.le_refl _, Nat.le_add_right _ _⟩ ⟨rfl, ⟨(RGo.up (k := 42) (RGo.up (k := 38) (RGo.up (k := 35) (RGo.up (k := 42) (RGo.up (k := 39) (RGo.up (k := 41) (RGo.up (k := 40) (RGo.up (k := 36) f1 rfl) rfl) rfl) rfl) rfl) rfl) rfl) rfl), (RSz.mk (s := J 164 37) (a := (J1 164 35) + 1) (Eq.trans (f1.2 37 rfl) rfl) rfl (by omega)), (by rw [show ((zup (zup (zup (zup (zup (zup (zup (zup J1 164 36 (J1 164 35)) 164 40 (-1)) 164 41 0) 164 39 0) 164 42 0) 164 35 ((J1 164 35) + 1)) 164 38 3) 164 42 z_63) : zJ) 164 36 = (J1 164 35) from rfl]; omega), ((J1 164 35) + 1), 3, z_63, rfl, rfl, rfl, by omega, by omega, by omega⟩⟩
              · have loop189 : ∀ (f9 : Nat) (J3 : zJ), ((J 164 37 - J3 164 35).toNat) < f9 → (RGo J3 J) → (RSz J3) → (0 ≤ J3 164 36 ∧ J3 164 36 ≤ 700) → (J1 164 35 ≤ J3 164 35) → (J3 164 42 = 0) → tz_At l G M_X12_go (tb_rm 2 0 0) none (tb_ZM G 0 0 (zQ n 0 (zqv (fun J' => RGo J' J ∧ RSz J' ∧ (0 ≤ J' 164 36 ∧ J' 164 36 ≤ 700) ∧ ∃ a9 s9 g9, J' 164 35 = a9 ∧ J' 164 38 = s9 ∧ J' 164 42 = g9 ∧ J 164 35 ≤ a9 ∧ (s9 = 0 ∨ J 164 35 < a9) ∧ (g9 = 0 ∨ ¬ s9 = 0)))) (zX n 0 zN)) 0 0 n J3 189 [some (.ref 164), some (zi z_63)] [] := by
                  intro f9
                  induction f9 with
                  | zero => intro J3 hm9; exact absurd hm9 (Nat.not_lt_zero _)
                  | succ f9 ih189 =>
                    intro J3 hm189 f3 rs3 pp3 le3 sg3
                    obtain ⟨ra3, rb3⟩ := id rs3
                    rw [f3.2 37 rfl] at ra3 rb3
                    refine tz_aload_n (pc := 189) dX12_go_189 rfl rfl ?_
                    refine tz_aload_n (pc := 190) dX12_go_190 rfl rfl ?_
                    refine tz_fI (pc := 191) (kz := 35) (v := (J3 164 35)) dX12_go_191 fl_X12_243 i_164_35 rfl rfl (fun r_191 => ?_)
                    refine tz_cV (pc := 194) (m_byteAt hl n _ _ (by omega) (by omega) (by rw [show (J3 : zJ) 164 37 = (J 164 37) from (Eq.trans (f3.2 37 rfl) rfl)]; omega)) vl_X12_240 dX12_go_194 o_164 rfl rfl (Nat.le_of_ble_eq_true rfl) ⟨(Nat.le_of_ble_eq_true rfl), (Nat.le_of_ble_eq_true rfl)⟩ rfl rfl (Nat.le_of_ble_eq_true rfl) (Nat.le_of_ble_eq_true rfl) (fun r9 J_194 hq9 => ?_)
                    obtain ⟨z_194, rfl, hz_194, rfl, hb_194, hc_194⟩ := hq9
                    rw [show (J3 : zJ) 164 37 = (J 164 37) from (Eq.trans (f3.2 37 rfl) rfl)] at hb_194 hc_194
                    refine tz_bipush (pc := 197) dX12_go_197 (by decide) ?_
                    refine tz_icmp_lt (pc := 199) (tgt := 260) dX12_go_199 (by decide) (by omega) (by decide) (fun h_199 => ?_) (fun h_199 => ?_)
                    · have lt9 : J1 164 35 < J3 164 35 := by
                        rcases Int.lt_or_eq_of_le le3 with e9 | e9
                        · exact e9
                        · exfalso
                          first | (have e1 := hc_207 (by omega); rw [f3.1 173 rfl, ← e9] at e1; have e2 : J1 173 (J1 164 35) = z_63 := hc_63 (by omega); rw [f1.1 173 rfl] at e2; omega) | (have e1 := hc_194 (by omega); rw [f3.1 173 rfl, ← e9] at e1; have e2 : J1 173 (J1 164 35) = z_63 := hc_63 (by omega); rw [f1.1 173 rfl] at e2; omega)
                      refine tz_aload_n (pc := 260) dX12_go_260 rfl rfl ?_
                      refine tz_iconst (pc := 261) dX12_go_261 ?_
                      refine tz_pI (pc := 262) (kz := 38) dX12_go_262 fl_X12_261 i_164_38 rfl rfl (by decide) ?_
                      refine tz_goto (pc := 265) (tgt := 312) dX12_go_265 (by decide) ?_
                      exact tz_vret (pc := 312) dX12_go_312 rfl (Nat.le_of_ble_eq_true rfl) (Nat.le_of_ble_eq_true rfl) ⟨Nat.le_refl _, Nat.le_add_right _ _⟩ ⟨rfl, ⟨(RGo.up (k := 38) f3 rfl), (RSz.mk (s := J 164 37) (a := J3 164 35) (Eq.trans (f3.2 37 rfl) rfl) rfl (by omega)), (by rw [show ((zup J3 164 38 2) : zJ) 164 36 = (J3 164 36) from rfl]; omega), (J3 164 35), 2, (J3 164 42), rfl, rfl, rfl, by omega, by omega, by omega⟩⟩
                    · refine tz_aload_n (pc := 202) dX12_go_202 rfl rfl ?_
                      refine tz_aload_n (pc := 203) dX12_go_203 rfl rfl ?_
                      refine tz_fI (pc := 204) (kz := 35) (v := (J3 164 35)) dX12_go_204 fl_X12_243 i_164_35 rfl rfl (fun r_204 => ?_)
                      refine tz_cV (pc := 207) (m_byteAt hl n _ _ (by omega) (by omega) (by rw [show (J3 : zJ) 164 37 = (J 164 37) from (Eq.trans (f3.2 37 rfl) rfl)]; omega)) vl_X12_240 dX12_go_207 o_164 rfl rfl (Nat.le_of_ble_eq_true rfl) ⟨(Nat.le_of_ble_eq_true rfl), (Nat.le_of_ble_eq_true rfl)⟩ rfl rfl (Nat.le_of_ble_eq_true rfl) (Nat.le_of_ble_eq_true rfl) (fun r9 J_207 hq9 => ?_)
                      obtain ⟨z_207, rfl, hz_207, rfl, hb_207, hc_207⟩ := hq9
                      rw [show (J3 : zJ) 164 37 = (J 164 37) from (Eq.trans (f3.2 37 rfl) rfl)] at hb_207 hc_207
                      refine tz_bipush (pc := 210) dX12_go_210 (by decide) ?_
                      refine tz_icmp_gt (pc := 212) (tgt := 260) dX12_go_212 (by decide) (by omega) (by decide) (fun h_212 => ?_) (fun h_212 => ?_)
                      · have lt9 : J1 164 35 < J3 164 35 := by
                          rcases Int.lt_or_eq_of_le le3 with e9 | e9
                          · exact e9
                          · exfalso
                            first | (have e1 := hc_207 (by omega); rw [f3.1 173 rfl, ← e9] at e1; have e2 : J1 173 (J1 164 35) = z_63 := hc_63 (by omega); rw [f1.1 173 rfl] at e2; omega) | (have e1 := hc_194 (by omega); rw [f3.1 173 rfl, ← e9] at e1; have e2 : J1 173 (J1 164 35) = z_63 := hc_63 (by omega); rw [f1.1 173 rfl] at e2; omega)
                        refine tz_aload_n (pc := 260) dX12_go_260 rfl rfl ?_
                        refine tz_iconst (pc := 261) dX12_go_261 ?_
                        refine tz_pI (pc := 262) (kz := 38) dX12_go_262 fl_X12_261 i_164_38 rfl rfl (by decide) ?_
                        refine tz_goto (pc := 265) (tgt := 312) dX12_go_265 (by decide) ?_
                        exact tz_vret (pc := 312) dX12_go_312 rfl (Nat.le_of_ble_eq_true rfl) (Nat.le_of_ble_eq_true rfl) ⟨Nat.le_refl _, Nat.le_add_right _ _⟩ ⟨rfl, ⟨(RGo.up (k := 38) f3 rfl), (RSz.mk (s := J 164 37) (a := J3 164 35) (Eq.trans (f3.2 37 rfl) rfl) rfl (by omega)), (by rw [show ((zup J3 164 38 2) : zJ) 164 36 = (J3 164 36) from rfl]; omega), (J3 164 35), 2, (J3 164 42), rfl, rfl, rfl, by omega, by omega, by omega⟩⟩
                      · refine tz_aload_n (pc := 215) dX12_go_215 rfl rfl ?_
                        refine tz_aload_n (pc := 216) dX12_go_216 rfl rfl ?_
                        refine tz_fI (pc := 217) (kz := 35) (v := (J3 164 35)) dX12_go_217 fl_X12_243 i_164_35 rfl rfl (fun r_217 => ?_)
                        refine tz_aload_n (pc := 220) dX12_go_220 rfl rfl ?_
                        refine tz_fI (pc := 221) (kz := 36) (v := (J3 164 36)) dX12_go_221 fl_X12_246 i_164_36 rfl rfl (fun r_221 => ?_)
                        refine tz_icmp_ne (pc := 224) (tgt := 241) dX12_go_224 (by decide) (by omega) (by omega) (fun h_224 => ?_) (fun h_224 => ?_)
                        · refine tz_sipush (pc := 241) dX12_go_241 (by decide) ?_
                          refine tz_pI (pc := 244) (kz := 39) dX12_go_244 fl_X12_255 i_164_39 rfl rfl (by decide) ?_
                          refine tz_aload_n (pc := 247) dX12_go_247 rfl rfl ?_
                          refine tz_dup (pc := 248) dX12_go_248 rfl ?_
                          refine tz_fI (pc := 249) (kz := 35) (v := (J3 164 35)) dX12_go_249 fl_X12_243 i_164_35 rfl rfl (fun r_249 => ?_)
                          refine tz_iconst (pc := 252) dX12_go_252 ?_
                          refine tz_iadd (pc := 253) (v := (J3 164 35) + 1) dX12_go_253 rfl ?_
                          refine tz_pI (pc := 254) (kz := 35) dX12_go_254 fl_X12_243 i_164_35 rfl rfl (by omega) ?_
                          refine tz_goto (pc := 257) (tgt := 189) dX12_go_257 (by decide) ?_
                          exact ih189 _ (by rw [show ((zup (zup J3 164 39 999) 164 35 ((J3 164 35) + 1)) : zJ) 164 35 = ((J3 164 35) + 1) from rfl]; omega) (RGo.up (k := 35) (RGo.up (k := 39) f3 rfl) rfl) (RSz.mk (s := J 164 37) (a := (J3 164 35) + 1) (Eq.trans (f3.2 37 rfl) rfl) rfl (by omega)) (by rw [show ((zup (zup J3 164 39 999) 164 35 ((J3 164 35) + 1)) : zJ) 164 36 = (J3 164 36) from rfl]; omega) (Int.le_trans (by omega) (Int.le_of_eq (Eq.symm (show ((zup (zup J3 164 39 999) 164 35 ((J3 164 35) + 1)) : zJ) 164 35 = ((J3 164 35) + 1) from rfl)))) (Eq.trans (show ((zup (zup J3 164 39 999) 164 35 ((J3 164 35) + 1)) : zJ) 164 42 = (J3 164 42) from rfl) (by omega))
                        · refine tz_aload_n (pc := 227) dX12_go_227 rfl rfl ?_
                          refine tz_aload_n (pc := 228) dX12_go_228 rfl rfl ?_
                          refine tz_fI (pc := 229) (kz := 35) (v := (J3 164 35)) dX12_go_229 fl_X12_243 i_164_35 rfl rfl (fun r_229 => ?_)
                          refine tz_cV (pc := 232) (m_byteAt hl n _ _ (by omega) (by omega) (by rw [show (J3 : zJ) 164 37 = (J 164 37) from (Eq.trans (f3.2 37 rfl) rfl)]; omega)) vl_X12_240 dX12_go_232 o_164 rfl rfl (Nat.le_of_ble_eq_true rfl) ⟨(Nat.le_of_ble_eq_true rfl), (Nat.le_of_ble_eq_true rfl)⟩ rfl rfl (Nat.le_of_ble_eq_true rfl) (Nat.le_of_ble_eq_true rfl) (fun r9 J_232 hq9 => ?_)
                          obtain ⟨z_232, rfl, hz_232, rfl, hb_232, hc_232⟩ := hq9
                          rw [show (J3 : zJ) 164 37 = (J 164 37) from (Eq.trans (f3.2 37 rfl) rfl)] at hb_232 hc_232
                          refine tz_bipush (pc := 235) dX12_go_235 (by decide) ?_
                          refine tz_isub (pc := 237) (v := z_232 - 48) dX12_go_237 rfl ?_
                          refine tz_goto (pc := 238) (tgt := 244) dX12_go_238 (by decide) ?_
                          refine tz_tw ?_
                          have rw_244 := zw_rg (z_232 - 48)
                          refine tz_pI (pc := 244) (kz := 39) dX12_go_244 fl_X12_255 i_164_39 rfl rfl (zw_rg _) ?_
                          refine tz_aload_n (pc := 247) dX12_go_247 rfl rfl ?_
                          refine tz_dup (pc := 248) dX12_go_248 rfl ?_
                          refine tz_fI (pc := 249) (kz := 35) (v := (J3 164 35)) dX12_go_249 fl_X12_243 i_164_35 rfl rfl (fun r_249 => ?_)
                          refine tz_iconst (pc := 252) dX12_go_252 ?_
                          refine tz_iadd (pc := 253) (v := (J3 164 35) + 1) dX12_go_253 rfl ?_
                          refine tz_pI (pc := 254) (kz := 35) dX12_go_254 fl_X12_243 i_164_35 rfl rfl (by omega) ?_
                          refine tz_goto (pc := 257) (tgt := 189) dX12_go_257 (by decide) ?_
                          exact ih189 _ (by rw [show ((zup (zup J3 164 39 (zw (z_232 - 48))) 164 35 ((J3 164 35) + 1)) : zJ) 164 35 = ((J3 164 35) + 1) from rfl]; omega) (RGo.up (k := 35) (RGo.up (k := 39) f3 rfl) rfl) (RSz.mk (s := J 164 37) (a := (J3 164 35) + 1) (Eq.trans (f3.2 37 rfl) rfl) rfl (by omega)) (by rw [show ((zup (zup J3 164 39 (zw (z_232 - 48))) 164 35 ((J3 164 35) + 1)) : zJ) 164 36 = (J3 164 36) from rfl]; omega) (Int.le_trans (by omega) (Int.le_of_eq (Eq.symm (show ((zup (zup J3 164 39 (zw (z_232 - 48))) 164 35 ((J3 164 35) + 1)) : zJ) 164 35 = ((J3 164 35) + 1) from rfl)))) (Eq.trans (show ((zup (zup J3 164 39 (zw (z_232 - 48))) 164 35 ((J3 164 35) + 1)) : zJ) 164 42 = (J3 164 42) from rfl) (by omega))
                exact loop189 _ _ (Nat.lt_succ_self _) (RGo.up (k := 42) (RGo.up (k := 39) (RGo.up (k := 41) (RGo.up (k := 40) (RGo.up (k := 36) f1 rfl) rfl) rfl) rfl) rfl) (RSz.mk (s := J 164 37) (a := J1 164 35) (Eq.trans (f1.2 37 rfl) rfl) rfl (by omega)) (by rw [show ((zup (zup (zup (zup (zup J1 164 36 (J1 164 35)) 164 40 (-1)) 164 41 0) 164 39 0) 164 42 0) : zJ) 164 36 = (J1 164 35) from rfl]; omega) (Int.le_trans (by omega) (Int.le_of_eq (Eq.symm (show ((zup (zup (zup (zup (zup J1 164 36 (J1 164 35)) 164 40 (-1)) 164 41 0) 164 39 0) 164 42 0) : zJ) 164 35 = (J1 164 35) from rfl)))) (Eq.trans (show ((zup (zup (zup (zup (zup J1 164 36 (J1 164 35)) 164 40 (-1)) 164 41 0) 164 39 0) 164 42 0) : zJ) 164 42 = 0 from rfl) (by omega))
          · have loop113 : ∀ (f9 : Nat) (J2 : zJ), ((J 164 37 - J2 164 35).toNat) < f9 → (RGo J2 J) → (RSz J2) → (0 ≤ J2 164 36 ∧ J2 164 36 ≤ 700) → (J1 164 35 ≤ J2 164 35) → (J2 164 42 = 0) → tz_At l G M_X12_go (tb_rm 2 0 0) none (tb_ZM G 0 0 (zQ n 0 (zqv (fun J' => RGo J' J ∧ RSz J' ∧ (0 ≤ J' 164 36 ∧ J' 164 36 ≤ 700) ∧ ∃ a9 s9 g9, J' 164 35 = a9 ∧ J' 164 38 = s9 ∧ J' 164 42 = g9 ∧ J 164 35 ≤ a9 ∧ (s9 = 0 ∨ J 164 35 < a9) ∧ (g9 = 0 ∨ ¬ s9 = 0)))) (zX n 0 zN)) 0 0 n J2 113 [some (.ref 164), some (zi z_63)] [] := by
              intro f9
              induction f9 with
              | zero => intro J2 hm9; exact absurd hm9 (Nat.not_lt_zero _)
              | succ f9 ih113 =>
                intro J2 hm113 f2 rs2 pp2 le2 sg2
                obtain ⟨ra2, rb2⟩ := id rs2
                rw [f2.2 37 rfl] at ra2 rb2
                refine tz_aload_n (pc := 113) dX12_go_113 rfl rfl ?_
                refine tz_aload_n (pc := 114) dX12_go_114 rfl rfl ?_
                refine tz_fI (pc := 115) (kz := 35) (v := (J2 164 35)) dX12_go_115 fl_X12_243 i_164_35 rfl rfl (fun r_115 => ?_)
                refine tz_cV (pc := 118) (m_byteAt hl n _ _ (by omega) (by omega) (by rw [show (J2 : zJ) 164 37 = (J 164 37) from (Eq.trans (f2.2 37 rfl) rfl)]; omega)) vl_X12_240 dX12_go_118 o_164 rfl rfl (Nat.le_of_ble_eq_true rfl) ⟨(Nat.le_of_ble_eq_true rfl), (Nat.le_of_ble_eq_true rfl)⟩ rfl rfl (Nat.le_of_ble_eq_true rfl) (Nat.le_of_ble_eq_true rfl) (fun r9 J_118 hq9 => ?_)
                obtain ⟨z_118, rfl, hz_118, rfl, hb_118, hc_118⟩ := hq9
                rw [show (J2 : zJ) 164 37 = (J 164 37) from (Eq.trans (f2.2 37 rfl) rfl)] at hb_118 hc_118
                refine tz_cS (pc := 121) (m_isLet hl n _ _ (by omega)) sl_X12_264 dX12_go_121 rfl rfl (Nat.le_of_ble_eq_true rfl) ⟨(Nat.le_of_ble_eq_true rfl), (Nat.le_of_ble_eq_true rfl)⟩ rfl rfl (Nat.le_of_ble_eq_true rfl) (Nat.le_of_ble_eq_true rfl) (fun r9 J_121 hq9 => ?_)
                obtain ⟨z_121, rfl, hz_121, rfl, hl_121⟩ := hq9
                refine tz_if_eq (pc := 124) (tgt := 140) dX12_go_124 (by decide) (by omega) (fun h_124 => ?_) (fun h_124 => ?_)
                · have lt9 : J1 164 35 < J2 164 35 := by
                    rcases Int.lt_or_eq_of_le le2 with e9 | e9
                    · exact e9
                    · exfalso
                      first | (have e1 := hc_118 (by omega); rw [f2.1 173 rfl, ← e9] at e1; have e2 : J1 173 (J1 164 35) = z_63 := hc_63 (by omega); rw [f1.1 173 rfl] at e2; omega)
                  refine tz_aload_n (pc := 140) dX12_go_140 rfl rfl ?_
                  refine tz_iconst (pc := 141) dX12_go_141 ?_
                  refine tz_pI (pc := 142) (kz := 38) dX12_go_142 fl_X12_261 i_164_38 rfl rfl (by decide) ?_
                  refine tz_aload_n (pc := 145) dX12_go_145 rfl rfl ?_
                  refine tz_aload_n (pc := 146) dX12_go_146 rfl rfl ?_
                  refine tz_fI (pc := 147) (kz := 35) (v := (J2 164 35)) dX12_go_147 fl_X12_243 i_164_35 rfl rfl (fun r_147 => ?_)
                  refine tz_aload_n (pc := 150) dX12_go_150 rfl rfl ?_
                  refine tz_fI (pc := 151) (kz := 36) (v := (J2 164 36)) dX12_go_151 fl_X12_246 i_164_36 rfl rfl (fun r_151 => ?_)
                  refine tz_isub (pc := 154) (v := (J2 164 35) - (J2 164 36)) dX12_go_154 rfl ?_
                  refine tz_pI (pc := 155) (kz := 41) dX12_go_155 fl_X12_252 i_164_41 rfl rfl (by omega) ?_
                  refine tz_aload_n (pc := 158) dX12_go_158 rfl rfl ?_
                  refine tz_aload_n (pc := 159) dX12_go_159 rfl rfl ?_
                  refine tz_aload_n (pc := 160) dX12_go_160 rfl rfl ?_
                  refine tz_fI (pc := 161) (kz := 36) (v := (J2 164 36)) dX12_go_161 fl_X12_246 i_164_36 rfl rfl (fun r_161 => ?_)
                  refine tz_aload_n (pc := 164) dX12_go_164 rfl rfl ?_
                  refine tz_fI (pc := 165) (kz := 35) (v := (J2 164 35)) dX12_go_165 fl_X12_243 i_164_35 rfl rfl (fun r_165 => ?_)
                  refine tz_cV (pc := 168) (m_wordFrom hl n _ _ _ (by omega) (by omega) (by omega) (by rw [show ((zup (zup J2 164 38 1) 164 41 ((J2 164 35) - (J2 164 36))) : zJ) 164 37 = (J 164 37) from (Eq.trans (f2.2 37 rfl) rfl)]; omega) (by omega)) vl_X12_267 dX12_go_168 o_164 rfl rfl (Nat.le_of_ble_eq_true rfl) ⟨(Nat.le_of_ble_eq_true rfl), (Nat.le_of_ble_eq_true rfl)⟩ rfl rfl (Nat.le_of_ble_eq_true rfl) (Nat.le_of_ble_eq_true rfl) (fun r9 J_168 hq9 => ?_)
                  obtain ⟨z_168, rfl, hz_168, rfl, hw⟩ := hq9
                  refine tz_pI (pc := 171) (kz := 40) dX12_go_171 fl_X12_249 i_164_40 rfl rfl (by omega) ?_
                  refine tz_goto (pc := 174) (tgt := 312) dX12_go_174 (by decide) ?_
                  exact tz_vret (pc := 312) dX12_go_312 rfl (Nat.le_of_ble_eq_true rfl) (Nat.le_of_ble_eq_true rfl) ⟨Nat.le_refl _, Nat.le_add_right _ _⟩ ⟨rfl, ⟨(RGo.up (k := 40) (RGo.up (k := 41) (RGo.up (k := 38) f2 rfl) rfl) rfl), (RSz.mk (s := J 164 37) (a := J2 164 35) (Eq.trans (f2.2 37 rfl) rfl) rfl (by omega)), (by rw [show ((zup (zup (zup J2 164 38 1) 164 41 ((J2 164 35) - (J2 164 36))) 164 40 z_168) : zJ) 164 36 = (J2 164 36) from rfl]; omega), (J2 164 35), 1, (J2 164 42), rfl, rfl, rfl, by omega, by omega, by omega⟩⟩
                · refine tz_aload_n (pc := 127) dX12_go_127 rfl rfl ?_
                  refine tz_dup (pc := 128) dX12_go_128 rfl ?_
                  refine tz_fI (pc := 129) (kz := 35) (v := (J2 164 35)) dX12_go_129 fl_X12_243 i_164_35 rfl rfl (fun r_129 => ?_)
                  refine tz_iconst (pc := 132) dX12_go_132 ?_
                  refine tz_iadd (pc := 133) (v := (J2 164 35) + 1) dX12_go_133 rfl ?_
                  refine tz_pI (pc := 134) (kz := 35) dX12_go_134 fl_X12_243 i_164_35 rfl rfl (by omega) ?_
                  refine tz_goto (pc := 137) (tgt := 113) dX12_go_137 (by decide) ?_
                  exact ih113 _ (by rw [show ((zup J2 164 35 ((J2 164 35) + 1)) : zJ) 164 35 = ((J2 164 35) + 1) from rfl]; omega) (RGo.up (k := 35) f2 rfl) (RSz.mk (s := J 164 37) (a := (J2 164 35) + 1) (Eq.trans (f2.2 37 rfl) rfl) rfl (by omega)) (by rw [show ((zup J2 164 35 ((J2 164 35) + 1)) : zJ) 164 36 = (J2 164 36) from rfl]; omega) (Int.le_trans (by omega) (Int.le_of_eq (Eq.symm (show ((zup J2 164 35 ((J2 164 35) + 1)) : zJ) 164 35 = ((J2 164 35) + 1) from rfl)))) (Eq.trans (show ((zup J2 164 35 ((J2 164 35) + 1)) : zJ) 164 42 = (J2 164 42) from rfl) (by omega))
            exact loop113 _ _ (Nat.lt_succ_self _) (RGo.up (k := 42) (RGo.up (k := 39) (RGo.up (k := 41) (RGo.up (k := 40) (RGo.up (k := 36) f1 rfl) rfl) rfl) rfl) rfl) (RSz.mk (s := J 164 37) (a := J1 164 35) (Eq.trans (f1.2 37 rfl) rfl) rfl (by omega)) (by rw [show ((zup (zup (zup (zup (zup J1 164 36 (J1 164 35)) 164 40 (-1)) 164 41 0) 164 39 0) 164 42 0) : zJ) 164 36 = (J1 164 35) from rfl]; omega) (Int.le_trans (by omega) (Int.le_of_eq (Eq.symm (show ((zup (zup (zup (zup (zup J1 164 36 (J1 164 35)) 164 40 (-1)) 164 41 0) 164 39 0) 164 42 0) : zJ) 164 35 = (J1 164 35) from rfl)))) (Eq.trans (show ((zup (zup (zup (zup (zup J1 164 36 (J1 164 35)) 164 40 (-1)) 164 41 0) 164 39 0) 164 42 0) : zJ) 164 42 = 0 from rfl) (by omega))
        · refine tz_aload_n (pc := 98) dX12_go_98 rfl rfl ?_
          refine tz_iconst (pc := 99) dX12_go_99 ?_
          refine tz_pI (pc := 100) (kz := 38) dX12_go_100 fl_X12_261 i_164_38 rfl rfl (by decide) ?_
          refine tz_goto (pc := 103) (tgt := 312) dX12_go_103 (by decide) ?_
          exact tz_vret (pc := 312) dX12_go_312 rfl (Nat.le_of_ble_eq_true rfl) (Nat.le_of_ble_eq_true rfl) ⟨Nat.le_refl _, Nat.le_add_right _ _⟩ ⟨rfl, ⟨(RGo.up (k := 38) (RGo.up (k := 42) (RGo.up (k := 39) (RGo.up (k := 41) (RGo.up (k := 40) (RGo.up (k := 36) f1 rfl) rfl) rfl) rfl) rfl) rfl), (RSz.mk (s := J 164 37) (a := J1 164 35) (Eq.trans (f1.2 37 rfl) rfl) rfl (by omega)), (by rw [show ((zup (zup (zup (zup (zup (zup J1 164 36 (J1 164 35)) 164 40 (-1)) 164 41 0) 164 39 0) 164 42 0) 164 38 0) : zJ) 164 36 = (J1 164 35) from rfl]; omega), (J1 164 35), 0, 0, rfl, rfl, rfl, by omega, by omega, by omega⟩⟩
      · refine tz_aload_n (pc := 11) dX12_go_11 rfl rfl ?_
        refine tz_aload_n (pc := 12) dX12_go_12 rfl rfl ?_
        refine tz_fI (pc := 13) (kz := 35) (v := (J1 164 35)) dX12_go_13 fl_X12_243 i_164_35 rfl rfl (fun r_13 => ?_)
        refine tz_cV (pc := 16) (m_byteAt hl n _ _ (by omega) (by omega) (by rw [show (J1 : zJ) 164 37 = (J 164 37) from (Eq.trans (f1.2 37 rfl) rfl)]; omega)) vl_X12_240 dX12_go_16 o_164 rfl rfl (Nat.le_of_ble_eq_true rfl) ⟨(Nat.le_of_ble_eq_true rfl), (Nat.le_of_ble_eq_true rfl)⟩ rfl rfl (Nat.le_of_ble_eq_true rfl) (Nat.le_of_ble_eq_true rfl) (fun r9 J_16 hq9 => ?_)
        obtain ⟨z_16, rfl, hz_16, rfl, hb_16, hc_16⟩ := hq9
        rw [show (J1 : zJ) 164 37 = (J 164 37) from (Eq.trans (f1.2 37 rfl) rfl)] at hb_16 hc_16
        refine tz_bipush (pc := 19) dX12_go_19 (by decide) ?_
        refine tz_icmp_eq (pc := 21) (tgt := 37) dX12_go_21 (by decide) (by omega) (by decide) (fun h_21 => ?_) (fun h_21 => ?_)
        · refine tz_aload_n (pc := 37) dX12_go_37 rfl rfl ?_
          refine tz_dup (pc := 38) dX12_go_38 rfl ?_
          refine tz_fI (pc := 39) (kz := 35) (v := (J1 164 35)) dX12_go_39 fl_X12_243 i_164_35 rfl rfl (fun r_39 => ?_)
          refine tz_iconst (pc := 42) dX12_go_42 ?_
          refine tz_iadd (pc := 43) (v := (J1 164 35) + 1) dX12_go_43 rfl ?_
          refine tz_pI (pc := 44) (kz := 35) dX12_go_44 fl_X12_243 i_164_35 rfl rfl (by omega) ?_
          refine tz_goto (pc := 47) (tgt := 0) dX12_go_47 (by decide) ?_
          exact ih0 _ (by rw [show ((zup J1 164 35 ((J1 164 35) + 1)) : zJ) 164 35 = ((J1 164 35) + 1) from rfl]; omega) (RGo.up (k := 35) f1 rfl) (RSz.mk (s := J 164 37) (a := (J1 164 35) + 1) (Eq.trans (f1.2 37 rfl) rfl) rfl (by omega)) (Int.le_trans (by omega) (Int.le_of_eq (Eq.symm (show ((zup J1 164 35 ((J1 164 35) + 1)) : zJ) 164 35 = ((J1 164 35) + 1) from rfl))))
        · refine tz_aload_n (pc := 24) dX12_go_24 rfl rfl ?_
          refine tz_aload_n (pc := 25) dX12_go_25 rfl rfl ?_
          refine tz_fI (pc := 26) (kz := 35) (v := (J1 164 35)) dX12_go_26 fl_X12_243 i_164_35 rfl rfl (fun r_26 => ?_)
          refine tz_cV (pc := 29) (m_byteAt hl n _ _ (by omega) (by omega) (by rw [show (J1 : zJ) 164 37 = (J 164 37) from (Eq.trans (f1.2 37 rfl) rfl)]; omega)) vl_X12_240 dX12_go_29 o_164 rfl rfl (Nat.le_of_ble_eq_true rfl) ⟨(Nat.le_of_ble_eq_true rfl), (Nat.le_of_ble_eq_true rfl)⟩ rfl rfl (Nat.le_of_ble_eq_true rfl) (Nat.le_of_ble_eq_true rfl) (fun r9 J_29 hq9 => ?_)
          obtain ⟨z_29, rfl, hz_29, rfl, hb_29, hc_29⟩ := hq9
          rw [show (J1 : zJ) 164 37 = (J 164 37) from (Eq.trans (f1.2 37 rfl) rfl)] at hb_29 hc_29
          refine tz_bipush (pc := 32) dX12_go_32 (by decide) ?_
          refine tz_icmp_ne (pc := 34) (tgt := 50) dX12_go_34 (by decide) (by omega) (by decide) (fun h_34 => ?_) (fun h_34 => ?_)
          · refine tz_aload_n (pc := 50) dX12_go_50 rfl rfl ?_
            refine tz_aload_n (pc := 51) dX12_go_51 rfl rfl ?_
            refine tz_fI (pc := 52) (kz := 35) (v := (J1 164 35)) dX12_go_52 fl_X12_243 i_164_35 rfl rfl (fun r_52 => ?_)
            refine tz_pI (pc := 55) (kz := 36) dX12_go_55 fl_X12_246 i_164_36 rfl rfl (by omega) ?_
            refine tz_aload_n (pc := 58) dX12_go_58 rfl rfl ?_
            refine tz_aload_n (pc := 59) dX12_go_59 rfl rfl ?_
            refine tz_fI (pc := 60) (kz := 35) (v := (J1 164 35)) dX12_go_60 fl_X12_243 i_164_35 rfl rfl (fun r_60 => ?_)
            refine tz_cV (pc := 63) (m_byteAt hl n _ _ (by omega) (by omega) (by rw [show ((zup J1 164 36 (J1 164 35)) : zJ) 164 37 = (J 164 37) from (Eq.trans (f1.2 37 rfl) rfl)]; omega)) vl_X12_240 dX12_go_63 o_164 rfl rfl (Nat.le_of_ble_eq_true rfl) ⟨(Nat.le_of_ble_eq_true rfl), (Nat.le_of_ble_eq_true rfl)⟩ rfl rfl (Nat.le_of_ble_eq_true rfl) (Nat.le_of_ble_eq_true rfl) (fun r9 J_63 hq9 => ?_)
            obtain ⟨z_63, rfl, hz_63, rfl, hb_63, hc_63⟩ := hq9
            rw [show ((zup J1 164 36 (J1 164 35)) : zJ) 164 37 = (J 164 37) from (Eq.trans (f1.2 37 rfl) rfl)] at hb_63 hc_63
            refine tz_istore_n (pc := 66) (L2 := [_, _]) dX12_go_66 rfl (by decide) rfl ?_
            refine tz_aload_n (pc := 67) dX12_go_67 rfl rfl ?_
            refine tz_iconst (pc := 68) dX12_go_68 ?_
            refine tz_pI (pc := 69) (kz := 40) dX12_go_69 fl_X12_249 i_164_40 rfl rfl (by decide) ?_
            refine tz_aload_n (pc := 72) dX12_go_72 rfl rfl ?_
            refine tz_iconst (pc := 73) dX12_go_73 ?_
            refine tz_pI (pc := 74) (kz := 41) dX12_go_74 fl_X12_252 i_164_41 rfl rfl (by decide) ?_
            refine tz_aload_n (pc := 77) dX12_go_77 rfl rfl ?_
            refine tz_iconst (pc := 78) dX12_go_78 ?_
            refine tz_pI (pc := 79) (kz := 39) dX12_go_79 fl_X12_255 i_164_39 rfl rfl (by decide) ?_
            refine tz_aload_n (pc := 82) dX12_go_82 rfl rfl ?_
            refine tz_iconst (pc := 83) dX12_go_83 ?_
            refine tz_pI (pc := 84) (kz := 42) dX12_go_84 fl_X12_258 i_164_42 rfl rfl (by decide) ?_
            refine tz_aload_n (pc := 87) dX12_go_87 rfl rfl ?_
            refine tz_fI (pc := 88) (kz := 35) (v := (J1 164 35)) dX12_go_88 fl_X12_243 i_164_35 rfl rfl (fun r_88 => ?_)
            refine tz_aload_n (pc := 91) dX12_go_91 rfl rfl ?_
            refine tz_fI (pc := 92) (kz := 37) (v := (J 164 37)) dX12_go_92 fl_X12_233 i_164_37 rfl (Eq.trans (f1.2 37 rfl) rfl) (fun r_92 => ?_)
            refine tz_icmp_lt (pc := 95) (tgt := 106) dX12_go_95 (by decide) (by omega) (by omega) (fun h_95 => ?_) (fun h_95 => ?_)
            · refine tz_iload_n (pc := 106) dX12_go_106 rfl rfl ?_
              refine tz_cS (pc := 107) (m_isLet hl n _ _ (by omega)) sl_X12_264 dX12_go_107 rfl rfl (Nat.le_of_ble_eq_true rfl) ⟨(Nat.le_of_ble_eq_true rfl), (Nat.le_of_ble_eq_true rfl)⟩ rfl rfl (Nat.le_of_ble_eq_true rfl) (Nat.le_of_ble_eq_true rfl) (fun r9 J_107 hq9 => ?_)
              obtain ⟨z_107, rfl, hz_107, rfl, hl_107⟩ := hq9
              refine tz_if_eq (pc := 110) (tgt := 177) dX12_go_110 (by decide) (by omega) (fun h_110 => ?_) (fun h_110 => ?_)
              · refine tz_iload_n (pc := 177) dX12_go_177 rfl rfl ?_
                refine tz_bipush (pc := 178) dX12_go_178 (by decide) ?_
                refine tz_icmp_lt (pc := 180) (tgt := 268) dX12_go_180 (by decide) (by omega) (by decide) (fun h_180 => ?_) (fun h_180 => ?_)
                · refine tz_aload_n (pc := 268) dX12_go_268 rfl rfl ?_
                  refine tz_dup (pc := 269) dX12_go_269 rfl ?_
                  refine tz_fI (pc := 270) (kz := 35) (v := (J1 164 35)) dX12_go_270 fl_X12_243 i_164_35 rfl rfl (fun r_270 => ?_)
                  refine tz_iconst (pc := 273) dX12_go_273 ?_
                  refine tz_iadd (pc := 274) (v := (J1 164 35) + 1) dX12_go_274 rfl ?_
                  refine tz_pI (pc := 275) (kz := 35) dX12_go_275 fl_X12_243 i_164_35 rfl rfl (by omega) ?_
                  refine tz_aload_n (pc := 278) dX12_go_278 rfl rfl ?_
                  refine tz_aload_n (pc := 279) dX12_go_279 rfl rfl ?_
                  refine tz_iload_n (pc := 280) dX12_go_280 rfl rfl ?_
                  refine tz_cV (pc := 281) (m_isSgn hl n _ _ (by omega)) vl_X12_270 dX12_go_281 o_164 rfl rfl (Nat.le_of_ble_eq_true rfl) ⟨(Nat.le_of_ble_eq_true rfl), (Nat.le_of_ble_eq_true rfl)⟩ rfl rfl (Nat.le_of_ble_eq_true rfl) (Nat.le_of_ble_eq_true rfl) (fun r9 J_281 hq9 => ?_)
                  obtain ⟨z_281, rfl, hz_281, rfl, hg⟩ := hq9
                  refine tz_if_eq (pc := 284) (tgt := 291) dX12_go_284 (by decide) (by omega) (fun h_284 => ?_) (fun h_284 => ?_)
                  · refine tz_iconst (pc := 291) dX12_go_291 ?_
                    refine tz_pI (pc := 292) (kz := 38) dX12_go_292 fl_X12_261 i_164_38 rfl rfl (by decide) ?_
                    refine tz_aload_n (pc := 295) dX12_go_295 rfl rfl ?_
                    refine tz_aload_n (pc := 296) dX12_go_296 rfl rfl ?_
                    refine tz_fI (pc := 297) (kz := 38) (v := 4) dX12_go_297 fl_X12_261 i_164_38 rfl rfl (fun _ => ?_)
                    refine tz_iconst (pc := 300) dX12_go_300 ?_
                    refine tz_icmp_neT (pc := 301) (tgt := 308) (by decide) dX12_go_301 (by decide) (by decide) (by decide) ?_
                    refine tz_iconst (pc := 308) dX12_go_308 ?_
                    refine tz_pI (pc := 309) (kz := 42) dX12_go_309 fl_X12_258 i_164_42 rfl rfl (by decide) ?_
                    exact tz_vret (pc := 312) dX12_go_312 rfl (Nat.le_of_ble_eq_true rfl) (Nat.le_of_ble_eq_true rfl) ⟨Nat.le_refl _, Nat.le_add_right _ _⟩ ⟨rfl, ⟨(RGo.up (k := 42) (RGo.up (k := 38) (RGo.up (k := 35) (RGo.up (k := 42) (RGo.up (k := 39) (RGo.up (k := 41) (RGo.up (k := 40) (RGo.up (k := 36) f1 rfl) rfl) rfl) rfl) rfl) rfl) rfl) rfl), (RSz.mk (s := J 164 37) (a := (J1 164 35) + 1) (Eq.trans (f1.2 37 rfl) rfl) rfl (by omega)), (by rw [show ((zup (zup (zup (zup (zup (zup (zup (zup J1 164 36 (J1 164 35)) 164 40 (-1)) 164 41 0) 164 39 0) 164 42 0) 164 35 ((J1 164 35) + 1)) 164 38 4) 164 42 0) : zJ) 164 36 = (J1 164 35) from rfl]; omega), ((J1 164 35) + 1), 4, 0, rfl, rfl, rfl, by omega, by omega, by omega⟩⟩
                  · refine tz_iconst (pc := 287) dX12_go_287 ?_
                    refine tz_goto (pc := 288) (tgt := 292) dX12_go_288 (by decide) ?_
                    refine tz_pI (pc := 292) (kz := 38) dX12_go_292 fl_X12_261 i_164_38 rfl rfl (by decide) ?_
                    refine tz_aload_n (pc := 295) dX12_go_295 rfl rfl ?_
                    refine tz_aload_n (pc := 296) dX12_go_296 rfl rfl ?_
                    refine tz_fI (pc := 297) (kz := 38) (v := 3) dX12_go_297 fl_X12_261 i_164_38 rfl rfl (fun _ => ?_)
                    refine tz_iconst (pc := 300) dX12_go_300 ?_
                    refine tz_icmp_neF (pc := 301) (tgt := 308) (by decide) dX12_go_301 (by decide) (by decide) (by decide) ?_
                    refine tz_iload_n (pc := 304) dX12_go_304 rfl rfl ?_
                    refine tz_goto (pc := 305) (tgt := 309) dX12_go_305 (by decide) ?_
                    refine tz_pI (pc := 309) (kz := 42) dX12_go_309 fl_X12_258 i_164_42 rfl rfl (by omega) ?_
                    exact tz_vret (pc := 312) dX12_go_312 rfl (Nat.le_of_ble_eq_true rfl) (Nat.le_of_ble_eq_true rfl) ⟨Nat.le_refl _, Nat.le_add_right _ _⟩ ⟨rfl, ⟨(RGo.up (k := 42) (RGo.up (k := 38) (RGo.up (k := 35) (RGo.up (k := 42) (RGo.up (k := 39) (RGo.up (k := 41) (RGo.up (k := 40) (RGo.up (k := 36) f1 rfl) rfl) rfl) rfl) rfl) rfl) rfl) rfl), (RSz.mk (s := J 164 37) (a := (J1 164 35) + 1) (Eq.trans (f1.2 37 rfl) rfl) rfl (by omega)), (by rw [show ((zup (zup (zup (zup (zup (zup (zup (zup J1 164 36 (J1 164 35)) 164 40 (-1)) 164 41 0) 164 39 0) 164 42 0) 164 35 ((J1 164 35) + 1)) 164 38 3) 164 42 z_63) : zJ) 164 36 = (J1 164 35) from rfl]; omega), ((J1 164 35) + 1), 3, z_63, rfl, rfl, rfl, by omega, by omega, by omega⟩⟩
                · refine tz_iload_n (pc := 183) dX12_go_183 rfl rfl ?_
                  refine tz_bipush (pc := 184) dX12_go_184 (by decide) ?_
                  refine tz_icmp_gt (pc := 186) (tgt := 268) dX12_go_186 (by decide) (by omega) (by decide) (fun h_186 => ?_) (fun h_186 => ?_)
                  · refine tz_aload_n (pc := 268) dX12_go_268 rfl rfl ?_
                    refine tz_dup (pc := 269) dX12_go_269 rfl ?_
                    refine tz_fI (pc := 270) (kz := 35) (v := (J1 164 35)) dX12_go_270 fl_X12_243 i_164_35 rfl rfl (fun r_270 => ?_)
                    refine tz_iconst (pc := 273) dX12_go_273 ?_
                    refine tz_iadd (pc := 274) (v := (J1 164 35) + 1) dX12_go_274 rfl ?_
                    refine tz_pI (pc := 275) (kz := 35) dX12_go_275 fl_X12_243 i_164_35 rfl rfl (by omega) ?_
                    refine tz_aload_n (pc := 278) dX12_go_278 rfl rfl ?_
                    refine tz_aload_n (pc := 279) dX12_go_279 rfl rfl ?_
                    refine tz_iload_n (pc := 280) dX12_go_280 rfl rfl ?_
                    refine tz_cV (pc := 281) (m_isSgn hl n _ _ (by omega)) vl_X12_270 dX12_go_281 o_164 rfl rfl (Nat.le_of_ble_eq_true rfl) ⟨(Nat.le_of_ble_eq_true rfl), (Nat.le_of_ble_eq_true rfl)⟩ rfl rfl (Nat.le_of_ble_eq_true rfl) (Nat.le_of_ble_eq_true rfl) (fun r9 J_281 hq9 => ?_)
                    obtain ⟨z_281, rfl, hz_281, rfl, hg⟩ := hq9
                    refine tz_if_eq (pc := 284) (tgt := 291) dX12_go_284 (by decide) (by omega) (fun h_284 => ?_) (fun h_284 => ?_)
                    · refine tz_iconst (pc := 291) dX12_go_291 ?_
                      refine tz_pI (pc := 292) (kz := 38) dX12_go_292 fl_X12_261 i_164_38 rfl rfl (by decide) ?_
                      refine tz_aload_n (pc := 295) dX12_go_295 rfl rfl ?_
                      refine tz_aload_n (pc := 296) dX12_go_296 rfl rfl ?_
                      refine tz_fI (pc := 297) (kz := 38) (v := 4) dX12_go_297 fl_X12_261 i_164_38 rfl rfl (fun _ => ?_)
                      refine tz_iconst (pc := 300) dX12_go_300 ?_
                      refine tz_icmp_neT (pc := 301) (tgt := 308) (by decide) dX12_go_301 (by decide) (by decide) (by decide) ?_
                      refine tz_iconst (pc := 308) dX12_go_308 ?_
                      refine tz_pI (pc := 309) (kz := 42) dX12_go_309 fl_X12_258 i_164_42 rfl rfl (by decide) ?_
                      exact tz_vret (pc := 312) dX12_go_312 rfl (Nat.le_of_ble_eq_true rfl) (Nat.le_of_ble_eq_true rfl) ⟨Nat.le_refl _, Nat.le_add_right _ _⟩ ⟨rfl, ⟨(RGo.up (k := 42) (RGo.up (k := 38) (RGo.up (k := 35) (RGo.up (k := 42) (RGo.up (k := 39) (RGo.up (k := 41) (RGo.up (k := 40) (RGo.up (k := 36) f1 rfl) rfl) rfl) rfl) rfl) rfl) rfl) rfl), (RSz.mk (s := J 164 37) (a := (J1 164 35) + 1) (Eq.trans (f1.2 37 rfl) rfl) rfl (by omega)), (by rw [show ((zup (zup (zup (zup (zup (zup (zup (zup J1 164 36 (J1 164 35)) 164 40 (-1)) 164 41 0) 164 39 0) 164 42 0) 164 35 ((J1 164 35) + 1)) 164 38 4) 164 42 0) : zJ) 164 36 = (J1 164 35) from rfl]; omega), ((J1 164 35) + 1), 4, 0, rfl, rfl, rfl, by omega, by omega, by omega⟩⟩
                    · refine tz_iconst (pc := 287) dX12_go_287 ?_
                      refine tz_goto (pc := 288) (tgt := 292) dX12_go_288 (by decide) ?_
                      refine tz_pI (pc := 292) (kz := 38) dX12_go_292 fl_X12_261 i_164_38 rfl rfl (by decide) ?_
                      refine tz_aload_n (pc := 295) dX12_go_295 rfl rfl ?_
                      refine tz_aload_n (pc := 296) dX12_go_296 rfl rfl ?_
                      refine tz_fI (pc := 297) (kz := 38) (v := 3) dX12_go_297 fl_X12_261 i_164_38 rfl rfl (fun _ => ?_)
                      refine tz_iconst (pc := 300) dX12_go_300 ?_
                      refine tz_icmp_neF (pc := 301) (tgt := 308) (by decide) dX12_go_301 (by decide) (by decide) (by decide) ?_
                      refine tz_iload_n (pc := 304) dX12_go_304 rfl rfl ?_
                      refine tz_goto (pc := 305) (tgt := 309) dX12_go_305 (by decide) ?_
                      refine tz_pI (pc := 309) (kz := 42) dX12_go_309 fl_X12_258 i_164_42 rfl rfl (by omega) ?_
                      exact tz_vret (pc := 312) dX12_go_312 rfl (Nat.le_of_ble_eq_true rfl) (Nat.le_of_ble_eq_true rfl) ⟨Nat.le_refl _, Nat.le_add_right _ _⟩ ⟨rfl, ⟨(RGo.up (k := 42) (RGo.up (k := 38) (RGo.up (k := 35) (RGo.up (k := 42) (RGo.up (k := 39) (RGo.up (k := 41) (RGo.up (k := 40) (RGo.up (k := 36) f1 rfl) rfl) rfl) rfl) rfl) rfl) rfl) rfl), (RSz.mk (s := J 164 37) (a := (J1 164 35) + 1) (Eq.trans (f1.2 37 rfl) rfl) rfl (by omega)), (by rw [show ((zup (zup (zup (zup (zup (zup (zup (zup J1 164 36 (J1 164 35)) 164 40 (-1)) 164 41 0) 164 39 0) 164 42 0) 164 35 ((J1 164 35) + 1)) 164 38 3) 164 42 z_63) : zJ) 164 36 = (J1 164 35) from rfl]; omega), ((J1 164 35) + 1), 3, z_63, rfl, rfl, rfl, by omega, by omega, by omega⟩⟩
                  · have loop189 : ∀ (f9 : Nat) (J3 : zJ), ((J 164 37 - J3 164 35).toNat) < f9 → (RGo J3 J) → (RSz J3) → (0 ≤ J3 164 36 ∧ J3 164 36 ≤ 700) → (J1 164 35 ≤ J3 164 35) → (J3 164 42 = 0) → tz_At l G M_X12_go (tb_rm 2 0 0) none (tb_ZM G 0 0 (zQ n 0 (zqv (fun J' => RGo J' J ∧ RSz J' ∧ (0 ≤ J' 164 36 ∧ J' 164 36 ≤ 700) ∧ ∃ a9 s9 g9, J' 164 35 = a9 ∧ J' 164 38 = s9 ∧ J' 164 42 = g9 ∧ J 164 35 ≤ a9 ∧ (s9 = 0 ∨ J 164 35 < a9) ∧ (g9 = 0 ∨ ¬ s9 = 0)))) (zX n 0 zN)) 0 0 n J3 189 [some (.ref 164), some (zi z_63)] [] := by
                      intro f9
                      induction f9 with
                      | zero => intro J3 hm9; exact absurd hm9 (Nat.not_lt_zero _)
                      | succ f9 ih189 =>
                        intro J3 hm189 f3 rs3 pp3 le3 sg3
                        obtain ⟨ra3, rb3⟩ := id rs3
                        rw [f3.2 37 rfl] at ra3 rb3
                        refine tz_aload_n (pc := 189) dX12_go_189 rfl rfl ?_
                        refine tz_aload_n (pc := 190) dX12_go_190 rfl rfl ?_
                        refine tz_fI (pc := 191) (kz := 35) (v := (J3 164 35)) dX12_go_191 fl_X12_243 i_164_35 rfl rfl (fun r_191 => ?_)
                        refine tz_cV (pc := 194) (m_byteAt hl n _ _ (by omega) (by omega) (by rw [show (J3 : zJ) 164 37 = (J 164 37) from (Eq.trans (f3.2 37 rfl) rfl)]; omega)) vl_X12_240 dX12_go_194 o_164 rfl rfl (Nat.le_of_ble_eq_true rfl) ⟨(Nat.le_of_ble_eq_true rfl), (Nat.le_of_ble_eq_true rfl)⟩ rfl rfl (Nat.le_of_ble_eq_true rfl) (Nat.le_of_ble_eq_true rfl) (fun r9 J_194 hq9 => ?_)
                        obtain ⟨z_194, rfl, hz_194, rfl, hb_194, hc_194⟩ := hq9
                        rw [show (J3 : zJ) 164 37 = (J 164 37) from (Eq.trans (f3.2 37 rfl) rfl)] at hb_194 hc_194
                        refine tz_bipush (pc := 197) dX12_go_197 (by decide) ?_
                        refine tz_icmp_lt (pc := 199) (tgt := 260) dX12_go_199 (by decide) (by omega) (by decide) (fun h_199 => ?_) (fun h_199 => ?_)
                        · have lt9 : J1 164 35 < J3 164 35 := by
                            rcases Int.lt_or_eq_of_le le3 with e9 | e9
                            · exact e9
                            · exfalso
                              first | (have e1 := hc_207 (by omega); rw [f3.1 173 rfl, ← e9] at e1; have e2 : J1 173 (J1 164 35) = z_63 := hc_63 (by omega); rw [f1.1 173 rfl] at e2; omega) | (have e1 := hc_194 (by omega); rw [f3.1 173 rfl, ← e9] at e1; have e2 : J1 173 (J1 164 35) = z_63 := hc_63 (by omega); rw [f1.1 173 rfl] at e2; omega)
                          refine tz_aload_n (pc := 260) dX12_go_260 rfl rfl ?_
                          refine tz_iconst (pc := 261) dX12_go_261 ?_
                          refine tz_pI (pc := 262) (kz := 38) dX12_go_262 fl_X12_261 i_164_38 rfl rfl (by decide) ?_
                          refine tz_goto (pc := 265) (tgt := 312) dX12_go_265 (by decide) ?_
                          exact tz_vret (pc := 312) dX12_go_312 rfl (Nat.le_of_ble_eq_true rfl) (Nat.le_of_ble_eq_true rfl) ⟨Nat.le_refl _, Nat.le_add_right _ _⟩ ⟨rfl, ⟨(RGo.up (k := 38) f3 rfl), (RSz.mk (s := J 164 37) (a := J3 164 35) (Eq.trans (f3.2 37 rfl) rfl) rfl (by omega)), (by rw [show ((zup J3 164 38 2) : zJ) 164 36 = (J3 164 36) from rfl]; omega), (J3 164 35), 2, (J3 164 42), rfl, rfl, rfl, by omega, by omega, by omega⟩⟩
                        · refine tz_aload_n (pc := 202) dX12_go_202 rfl rfl ?_
                          refine tz_aload_n (pc := 203) dX12_go_203 rfl rfl ?_
                          refine tz_fI (pc := 204) (kz := 35) (v := (J3 164 35)) dX12_go_204 fl_X12_243 i_164_35 rfl rfl (fun r_204 => ?_)
                          refine tz_cV (pc := 207) (m_byteAt hl n _ _ (by omega) (by omega) (by rw [show (J3 : zJ) 164 37 = (J 164 37) from (Eq.trans (f3.2 37 rfl) rfl)]; omega)) vl_X12_240 dX12_go_207 o_164 rfl rfl (Nat.le_of_ble_eq_true rfl) ⟨(Nat.le_of_ble_eq_true rfl), (Nat.le_of_ble_eq_true rfl)⟩ rfl rfl (Nat.le_of_ble_eq_true rfl) (Nat.le_of_ble_eq_true rfl) (fun r9 J_207 hq9 => ?_)
                          obtain ⟨z_207, rfl, hz_207, rfl, hb_207, hc_207⟩ := hq9
                          rw [show (J3 : zJ) 164 37 = (J 164 37) from (Eq.trans (f3.2 37 rfl) rfl)] at hb_207 hc_207
                          refine tz_bipush (pc := 210) dX12_go_210 (by decide) ?_
                          refine tz_icmp_gt (pc := 212) (tgt := 260) dX12_go_212 (by decide) (by omega) (by decide) (fun h_212 => ?_) (fun h_212 => ?_)
                          · have lt9 : J1 164 35 < J3 164 35 := by
                              rcases Int.lt_or_eq_of_le le3 with e9 | e9
                              · exact e9
                              · exfalso
                                first | (have e1 := hc_207 (by omega); rw [f3.1 173 rfl, ← e9] at e1; have e2 : J1 173 (J1 164 35) = z_63 := hc_63 (by omega); rw [f1.1 173 rfl] at e2; omega) | (have e1 := hc_194 (by omega); rw [f3.1 173 rfl, ← e9] at e1; have e2 : J1 173 (J1 164 35) = z_63 := hc_63 (by omega); rw [f1.1 173 rfl] at e2; omega)
                            refine tz_aload_n (pc := 260) dX12_go_260 rfl rfl ?_
                            refine tz_iconst (pc := 261) dX12_go_261 ?_
                            refine tz_pI (pc := 262) (kz := 38) dX12_go_262 fl_X12_261 i_164_38 rfl rfl (by decide) ?_
                            refine tz_goto (pc := 265) (tgt := 312) dX12_go_265 (by decide) ?_
                            exact tz_vret (pc := 312) dX12_go_312 rfl (Nat.le_of_ble_eq_true rfl) (Nat.le_of_ble_eq_true rfl) ⟨Nat.le_refl _, Nat.le_add_right _ _⟩ ⟨rfl, ⟨(RGo.up (k := 38) f3 rfl), (RSz.mk (s := J 164 37) (a := J3 164 35) (Eq.trans (f3.2 37 rfl) rfl) rfl (by omega)), (by rw [show ((zup J3 164 38 2) : zJ) 164 36 = (J3 164 36) from rfl]; omega), (J3 164 35), 2, (J3 164 42), rfl, rfl, rfl, by omega, by omega, by omega⟩⟩
                          · refine tz_aload_n (pc := 215) dX12_go_215 rfl rfl ?_
                            refine tz_aload_n (pc := 216) dX12_go_216 rfl rfl ?_
                            refine tz_fI (pc := 217) (kz := 35) (v := (J3 164 35)) dX12_go_217 fl_X12_243 i_164_35 rfl rfl (fun r_217 => ?_)
                            refine tz_aload_n (pc := 220) dX12_go_220 rfl rfl ?_
                            refine tz_fI (pc := 221) (kz := 36) (v := (J3 164 36)) dX12_go_221 fl_X12_246 i_164_36 rfl rfl (fun r_221 => ?_)
                            refine tz_icmp_ne (pc := 224) (tgt := 241) dX12_go_224 (by decide) (by omega) (by omega) (fun h_224 => ?_) (fun h_224 => ?_)
                            · refine tz_sipush (pc := 241) dX12_go_241 (by decide) ?_
                              refine tz_pI (pc := 244) (kz := 39) dX12_go_244 fl_X12_255 i_164_39 rfl rfl (by decide) ?_
                              refine tz_aload_n (pc := 247) dX12_go_247 rfl rfl ?_
                              refine tz_dup (pc := 248) dX12_go_248 rfl ?_
                              refine tz_fI (pc := 249) (kz := 35) (v := (J3 164 35)) dX12_go_249 fl_X12_243 i_164_35 rfl rfl (fun r_249 => ?_)
                              refine tz_iconst (pc := 252) dX12_go_252 ?_
                              refine tz_iadd (pc := 253) (v := (J3 164 35) + 1) dX12_go_253 rfl ?_
                              refine tz_pI (pc := 254) (kz := 35) dX12_go_254 fl_X12_243 i_164_35 rfl rfl (by omega) ?_
                              refine tz_goto (pc := 257) (tgt := 189) dX12_go_257 (by decide) ?_
                              exact ih189 _ (by rw [show ((zup (zup J3 164 39 999) 164 35 ((J3 164 35) + 1)) : zJ) 164 35 = ((J3 164 35) + 1) from rfl]; omega) (RGo.up (k := 35) (RGo.up (k := 39) f3 rfl) rfl) (RSz.mk (s := J 164 37) (a := (J3 164 35) + 1) (Eq.trans (f3.2 37 rfl) rfl) rfl (by omega)) (by rw [show ((zup (zup J3 164 39 999) 164 35 ((J3 164 35) + 1)) : zJ) 164 36 = (J3 164 36) from rfl]; omega) (Int.le_trans (by omega) (Int.le_of_eq (Eq.symm (show ((zup (zup J3 164 39 999) 164 35 ((J3 164 35) + 1)) : zJ) 164 35 = ((J3 164 35) + 1) from rfl)))) (Eq.trans (show ((zup (zup J3 164 39 999) 164 35 ((J3 164 35) + 1)) : zJ) 164 42 = (J3 164 42) from rfl) (by omega))
                            · refine tz_aload_n (pc := 227) dX12_go_227 rfl rfl ?_
                              refine tz_aload_n (pc := 228) dX12_go_228 rfl rfl ?_
                              refine tz_fI (pc := 229) (kz := 35) (v := (J3 164 35)) dX12_go_229 fl_X12_243 i_164_35 rfl rfl (fun r_229 => ?_)
                              refine tz_cV (pc := 232) (m_byteAt hl n _ _ (by omega) (by omega) (by rw [show (J3 : zJ) 164 37 = (J 164 37) from (Eq.trans (f3.2 37 rfl) rfl)]; omega)) vl_X12_240 dX12_go_232 o_164 rfl rfl (Nat.le_of_ble_eq_true rfl) ⟨(Nat.le_of_ble_eq_true rfl), (Nat.le_of_ble_eq_true rfl)⟩ rfl rfl (Nat.le_of_ble_eq_true rfl) (Nat.le_of_ble_eq_true rfl) (fun r9 J_232 hq9 => ?_)
                              obtain ⟨z_232, rfl, hz_232, rfl, hb_232, hc_232⟩ := hq9
                              rw [show (J3 : zJ) 164 37 = (J 164 37) from (Eq.trans (f3.2 37 rfl) rfl)] at hb_232 hc_232
                              refine tz_bipush (pc := 235) dX12_go_235 (by decide) ?_
                              refine tz_isub (pc := 237) (v := z_232 - 48) dX12_go_237 rfl ?_
                              refine tz_goto (pc := 238) (tgt := 244) dX12_go_238 (by decide) ?_
                              refine tz_tw ?_
                              have rw_244 := zw_rg (z_232 - 48)
                              refine tz_pI (pc := 244) (kz := 39) dX12_go_244 fl_X12_255 i_164_39 rfl rfl (zw_rg _) ?_
                              refine tz_aload_n (pc := 247) dX12_go_247 rfl rfl ?_
                              refine tz_dup (pc := 248) dX12_go_248 rfl ?_
                              refine tz_fI (pc := 249) (kz := 35) (v := (J3 164 35)) dX12_go_249 fl_X12_243 i_164_35 rfl rfl (fun r_249 => ?_)
                              refine tz_iconst (pc := 252) dX12_go_252 ?_
                              refine tz_iadd (pc := 253) (v := (J3 164 35) + 1) dX12_go_253 rfl ?_
                              refine tz_pI (pc := 254) (kz := 35) dX12_go_254 fl_X12_243 i_164_35 rfl rfl (by omega) ?_
                              refine tz_goto (pc := 257) (tgt := 189) dX12_go_257 (by decide) ?_
                              exact ih189 _ (by rw [show ((zup (zup J3 164 39 (zw (z_232 - 48))) 164 35 ((J3 164 35) + 1)) : zJ) 164 35 = ((J3 164 35) + 1) from rfl]; omega) (RGo.up (k := 35) (RGo.up (k := 39) f3 rfl) rfl) (RSz.mk (s := J 164 37) (a := (J3 164 35) + 1) (Eq.trans (f3.2 37 rfl) rfl) rfl (by omega)) (by rw [show ((zup (zup J3 164 39 (zw (z_232 - 48))) 164 35 ((J3 164 35) + 1)) : zJ) 164 36 = (J3 164 36) from rfl]; omega) (Int.le_trans (by omega) (Int.le_of_eq (Eq.symm (show ((zup (zup J3 164 39 (zw (z_232 - 48))) 164 35 ((J3 164 35) + 1)) : zJ) 164 35 = ((J3 164 35) + 1) from rfl)))) (Eq.trans (show ((zup (zup J3 164 39 (zw (z_232 - 48))) 164 35 ((J3 164 35) + 1)) : zJ) 164 42 = (J3 164 42) from rfl) (by omega))
                    exact loop189 _ _ (Nat.lt_succ_self _) (RGo.up (k := 42) (RGo.up (k := 39) (RGo.up (k := 41) (RGo.up (k := 40) (RGo.up (k := 36) f1 rfl) rfl) rfl) rfl) rfl) (RSz.mk (s := J 164 37) (a := J1 164 35) (Eq.trans (f1.2 37 rfl) rfl) rfl (by omega)) (by rw [show ((zup (zup (zup (zup (zup J1 164 36 (J1 164 35)) 164 40 (-1)) 164 41 0) 164 39 0) 164 42 0) : zJ) 164 36 = (J1 164 35) from rfl]; omega) (Int.le_trans (by omega) (Int.le_of_eq (Eq.symm (show ((zup (zup (zup (zup (zup J1 164 36 (J1 164 35)) 164 40 (-1)) 164 41 0) 164 39 0) 164 42 0) : zJ) 164 35 = (J1 164 35) from rfl)))) (Eq.trans (show ((zup (zup (zup (zup (zup J1 164 36 (J1 164 35)) 164 40 (-1)) 164 41 0) 164 39 0) 164 42 0) : zJ) 164 42 = 0 from rfl) (by omega))
              · have loop113 : ∀ (f9 : Nat) (J2 : zJ), ((J 164 37 - J2 164 35).toNat) < f9 → (RGo J2 J) → (RSz J2) → (0 ≤ J2 164 36 ∧ J2 164 36 ≤ 700) → (J1 164 35 ≤ J2 164 35) → (J2 164 42 = 0) → tz_At l G M_X12_go (tb_rm 2 0 0) none (tb_ZM G 0 0 (zQ n 0 (zqv (fun J' => RGo J' J ∧ RSz J' ∧ (0 ≤ J' 164 36 ∧ J' 164 36 ≤ 700) ∧ ∃ a9 s9 g9, J' 164 35 = a9 ∧ J' 164 38 = s9 ∧ J' 164 42 = g9 ∧ J 164 35 ≤ a9 ∧ (s9 = 0 ∨ J 164 35 < a9) ∧ (g9 = 0 ∨ ¬ s9 = 0)))) (zX n 0 zN)) 0 0 n J2 113 [some (.ref 164), some (zi z_63)] [] := by
                  intro f9
                  induction f9 with
                  | zero => intro J2 hm9; exact absurd hm9 (Nat.not_lt_zero _)
                  | succ f9 ih113 =>
                    intro J2 hm113 f2 rs2 pp2 le2 sg2
                    obtain ⟨ra2, rb2⟩ := id rs2
                    rw [f2.2 37 rfl] at ra2 rb2
                    refine tz_aload_n (pc := 113) dX12_go_113 rfl rfl ?_
                    refine tz_aload_n (pc := 114) dX12_go_114 rfl rfl ?_
                    refine tz_fI (pc := 115) (kz := 35) (v := (J2 164 35)) dX12_go_115 fl_X12_243 i_164_35 rfl rfl (fun r_115 => ?_)
                    refine tz_cV (pc := 118) (m_byteAt hl n _ _ (by omega) (by omega) (by rw [show (J2 : zJ) 164 37 = (J 164 37) from (Eq.trans (f2.2 37 rfl) rfl)]; omega)) vl_X12_240 dX12_go_118 o_164 rfl rfl (Nat.le_of_ble_eq_true rfl) ⟨(Nat.le_of_ble_eq_true rfl), (Nat.le_of_ble_eq_true rfl)⟩ rfl rfl (Nat.le_of_ble_eq_true rfl) (Nat.le_of_ble_eq_true rfl) (fun r9 J_118 hq9 => ?_)
                    obtain ⟨z_118, rfl, hz_118, rfl, hb_118, hc_118⟩ := hq9
                    rw [show (J2 : zJ) 164 37 = (J 164 37) from (Eq.trans (f2.2 37 rfl) rfl)] at hb_118 hc_118
                    refine tz_cS (pc := 121) (m_isLet hl n _ _ (by omega)) sl_X12_264 dX12_go_121 rfl rfl (Nat.le_of_ble_eq_true rfl) ⟨(Nat.le_of_ble_eq_true rfl), (Nat.le_of_ble_eq_true rfl)⟩ rfl rfl (Nat.le_of_ble_eq_true rfl) (Nat.le_of_ble_eq_true rfl) (fun r9 J_121 hq9 => ?_)
                    obtain ⟨z_121, rfl, hz_121, rfl, hl_121⟩ := hq9
                    refine tz_if_eq (pc := 124) (tgt := 140) dX12_go_124 (by decide) (by omega) (fun h_124 => ?_) (fun h_124 => ?_)
                    · have lt9 : J1 164 35 < J2 164 35 := by
                        rcases Int.lt_or_eq_of_le le2 with e9 | e9
                        · exact e9
                        · exfalso
                          first | (have e1 := hc_118 (by omega); rw [f2.1 173 rfl, ← e9] at e1; have e2 : J1 173 (J1 164 35) = z_63 := hc_63 (by omega); rw [f1.1 173 rfl] at e2; omega)
                      refine tz_aload_n (pc := 140) dX12_go_140 rfl rfl ?_
                      refine tz_iconst (pc := 141) dX12_go_141 ?_
                      refine tz_pI (pc := 142) (kz := 38) dX12_go_142 fl_X12_261 i_164_38 rfl rfl (by decide) ?_
                      refine tz_aload_n (pc := 145) dX12_go_145 rfl rfl ?_
                      refine tz_aload_n (pc := 146) dX12_go_146 rfl rfl ?_
                      refine tz_fI (pc := 147) (kz := 35) (v := (J2 164 35)) dX12_go_147 fl_X12_243 i_164_35 rfl rfl (fun r_147 => ?_)
                      refine tz_aload_n (pc := 150) dX12_go_150 rfl rfl ?_
                      refine tz_fI (pc := 151) (kz := 36) (v := (J2 164 36)) dX12_go_151 fl_X12_246 i_164_36 rfl rfl (fun r_151 => ?_)
                      refine tz_isub (pc := 154) (v := (J2 164 35) - (J2 164 36)) dX12_go_154 rfl ?_
                      refine tz_pI (pc := 155) (kz := 41) dX12_go_155 fl_X12_252 i_164_41 rfl rfl (by omega) ?_
                      refine tz_aload_n (pc := 158) dX12_go_158 rfl rfl ?_
                      refine tz_aload_n (pc := 159) dX12_go_159 rfl rfl ?_
                      refine tz_aload_n (pc := 160) dX12_go_160 rfl rfl ?_
                      refine tz_fI (pc := 161) (kz := 36) (v := (J2 164 36)) dX12_go_161 fl_X12_246 i_164_36 rfl rfl (fun r_161 => ?_)
                      refine tz_aload_n (pc := 164) dX12_go_164 rfl rfl ?_
                      refine tz_fI (pc := 165) (kz := 35) (v := (J2 164 35)) dX12_go_165 fl_X12_243 i_164_35 rfl rfl (fun r_165 => ?_)
                      refine tz_cV (pc := 168) (m_wordFrom hl n _ _ _ (by omega) (by omega) (by omega) (by rw [show ((zup (zup J2 164 38 1) 164 41 ((J2 164 35) - (J2 164 36))) : zJ) 164 37 = (J 164 37) from (Eq.trans (f2.2 37 rfl) rfl)]; omega) (by omega)) vl_X12_267 dX12_go_168 o_164 rfl rfl (Nat.le_of_ble_eq_true rfl) ⟨(Nat.le_of_ble_eq_true rfl), (Nat.le_of_ble_eq_true rfl)⟩ rfl rfl (Nat.le_of_ble_eq_true rfl) (Nat.le_of_ble_eq_true rfl) (fun r9 J_168 hq9 => ?_)
                      obtain ⟨z_168, rfl, hz_168, rfl, hw⟩ := hq9
                      refine tz_pI (pc := 171) (kz := 40) dX12_go_171 fl_X12_249 i_164_40 rfl rfl (by omega) ?_
                      refine tz_goto (pc := 174) (tgt := 312) dX12_go_174 (by decide) ?_
                      exact tz_vret (pc := 312) dX12_go_312 rfl (Nat.le_of_ble_eq_true rfl) (Nat.le_of_ble_eq_true rfl) ⟨Nat.le_refl _, Nat.le_add_right _ _⟩ ⟨rfl, ⟨(RGo.up (k := 40) (RGo.up (k := 41) (RGo.up (k := 38) f2 rfl) rfl) rfl), (RSz.mk (s := J 164 37) (a := J2 164 35) (Eq.trans (f2.2 37 rfl) rfl) rfl (by omega)), (by rw [show ((zup (zup (zup J2 164 38 1) 164 41 ((J2 164 35) - (J2 164 36))) 164 40 z_168) : zJ) 164 36 = (J2 164 36) from rfl]; omega), (J2 164 35), 1, (J2 164 42), rfl, rfl, rfl, by omega, by omega, by omega⟩⟩
                    · refine tz_aload_n (pc := 127) dX12_go_127 rfl rfl ?_
                      refine tz_dup (pc := 128) dX12_go_128 rfl ?_
                      refine tz_fI (pc := 129) (kz := 35) (v := (J2 164 35)) dX12_go_129 fl_X12_243 i_164_35 rfl rfl (fun r_129 => ?_)
                      refine tz_iconst (pc := 132) dX12_go_132 ?_
                      refine tz_iadd (pc := 133) (v := (J2 164 35) + 1) dX12_go_133 rfl ?_
                      refine tz_pI (pc := 134) (kz := 35) dX12_go_134 fl_X12_243 i_164_35 rfl rfl (by omega) ?_
                      refine tz_goto (pc := 137) (tgt := 113) dX12_go_137 (by decide) ?_
                      exact ih113 _ (by rw [show ((zup J2 164 35 ((J2 164 35) + 1)) : zJ) 164 35 = ((J2 164 35) + 1) from rfl]; omega) (RGo.up (k := 35) f2 rfl) (RSz.mk (s := J 164 37) (a := (J2 164 35) + 1) (Eq.trans (f2.2 37 rfl) rfl) rfl (by omega)) (by rw [show ((zup J2 164 35 ((J2 164 35) + 1)) : zJ) 164 36 = (J2 164 36) from rfl]; omega) (Int.le_trans (by omega) (Int.le_of_eq (Eq.symm (show ((zup J2 164 35 ((J2 164 35) + 1)) : zJ) 164 35 = ((J2 164 35) + 1) from rfl)))) (Eq.trans (show ((zup J2 164 35 ((J2 164 35) + 1)) : zJ) 164 42 = (J2 164 42) from rfl) (by omega))
                exact loop113 _ _ (Nat.lt_succ_self _) (RGo.up (k := 42) (RGo.up (k := 39) (RGo.up (k := 41) (RGo.up (k := 40) (RGo.up (k := 36) f1 rfl) rfl) rfl) rfl) rfl) (RSz.mk (s := J 164 37) (a := J1 164 35) (Eq.trans (f1.2 37 rfl) rfl) rfl (by omega)) (by rw [show ((zup (zup (zup (zup (zup J1 164 36 (J1 164 35)) 164 40 (-1)) 164 41 0) 164 39 0) 164 42 0) : zJ) 164 36 = (J1 164 35) from rfl]; omega) (Int.le_trans (by omega) (Int.le_of_eq (Eq.symm (show ((zup (zup (zup (zup (zup J1 164 36 (J1 164 35)) 164 40 (-1)) 164 41 0) 164 39 0) 164 42 0) : zJ) 164 35 = (J1 164 35) from rfl)))) (Eq.trans (show ((zup (zup (zup (zup (zup J1 164 36 (J1 164 35)) 164 40 (-1)) 164 41 0) 164 39 0) 164 42 0) : zJ) 164 42 = 0 from rfl) (by omega))
            · refine tz_aload_n (pc := 98) dX12_go_98 rfl rfl ?_
              refine tz_iconst (pc := 99) dX12_go_99 ?_
              refine tz_pI (pc := 100) (kz := 38) dX12_go_100 fl_X12_261 i_164_38 rfl rfl (by decide) ?_
              refine tz_goto (pc := 103) (tgt := 312) dX12_go_103 (by decide) ?_
              exact tz_vret (pc := 312) dX12_go_312 rfl (Nat.le_of_ble_eq_true rfl) (Nat.le_of_ble_eq_true rfl) ⟨Nat.le_refl _, Nat.le_add_right _ _⟩ ⟨rfl, ⟨(RGo.up (k := 38) (RGo.up (k := 42) (RGo.up (k := 39) (RGo.up (k := 41) (RGo.up (k := 40) (RGo.up (k := 36) f1 rfl) rfl) rfl) rfl) rfl) rfl), (RSz.mk (s := J 164 37) (a := J1 164 35) (Eq.trans (f1.2 37 rfl) rfl) rfl (by omega)), (by rw [show ((zup (zup (zup (zup (zup (zup J1 164 36 (J1 164 35)) 164 40 (-1)) 164 41 0) 164 39 0) 164 42 0) 164 38 0) : zJ) 164 36 = (J1 164 35) from rfl]; omega), (J1 164 35), 0, 0, rfl, rfl, rfl, by omega, by omega, by omega⟩⟩
          · refine tz_aload_n (pc := 37) dX12_go_37 rfl rfl ?_
            refine tz_dup (pc := 38) dX12_go_38 rfl ?_
            refine tz_fI (pc := 39) (kz := 35) (v := (J1 164 35)) dX12_go_39 fl_X12_243 i_164_35 rfl rfl (fun r_39 => ?_)
            refine tz_iconst (pc := 42) dX12_go_42 ?_
            refine tz_iadd (pc := 43) (v := (J1 164 35) + 1) dX12_go_43 rfl ?_
            refine tz_pI (pc := 44) (kz := 35) dX12_go_44 fl_X12_243 i_164_35 rfl rfl (by omega) ?_
            refine tz_goto (pc := 47) (tgt := 0) dX12_go_47 (by decide) ?_
            exact ih0 _ (by rw [show ((zup J1 164 35 ((J1 164 35) + 1)) : zJ) 164 35 = ((J1 164 35) + 1) from rfl]; omega) (RGo.up (k := 35) f1 rfl) (RSz.mk (s := J 164 37) (a := (J1 164 35) + 1) (Eq.trans (f1.2 37 rfl) rfl) rfl (by omega)) (Int.le_trans (by omega) (Int.le_of_eq (Eq.symm (show ((zup J1 164 35 ((J1 164 35) + 1)) : zJ) 164 35 = ((J1 164 35) + 1) from rfl))))
  exact loop0 _ _ (Nat.lt_succ_self _) RGo.rf (RSz.mk (s := J 164 37) (a := J 164 35) rfl rfl (by omega)) (Int.le_trans (by omega) (Int.le_of_eq (Eq.symm (show (J : zJ) 164 35 = (J 164 35) from rfl))))

end
section
def RSP (J : zJ) : Prop := RSz J ∧ (0 ≤ J 164 36 ∧ J 164 36 ≤ 700) ∧ (J 164 42 = 0 ∨ ¬ J 164 38 = 0)
/-- what reading on, or a fault, changes -/
def RGw (J' J : zJ) : Prop := (zOf (zbut [164]) J' J ∧ ∀ k, rdF k = false → ¬ k = 43 → ¬ k = 20 → J' 164 k = J 164 k) ∧ RSP J' ∧ (J' 164 43 = 0 → J 164 43 = 0) ∧ rmu J' ≤ rmu J
theorem RGw.rf {J : zJ} (h : RSP J) : RGw J J := ⟨⟨zOf.rf, fun _ _ _ _ => rfl⟩, h, id, Int.le_refl _⟩
theorem RGw.tr {J3 J2 J1 : zJ} (g : RGw J2 J1) (h : RGw J3 J2) : RGw J3 J1 := ⟨⟨h.1.1.tr g.1.1, fun k a b c => (h.1.2 k a b c).trans (g.1.2 k a b c)⟩, h.2.1, fun q => g.2.2.1 (h.2.2.1 q), Int.le_trans h.2.2.2 g.2.2.2⟩
theorem rmu_go {J' J : zJ} (h : RGo J' J) (r : ∃ a9 s9 g9, J' 164 35 = a9 ∧ J' 164 38 = s9 ∧ J' 164 42 = g9 ∧ J 164 35 ≤ a9 ∧ (s9 = 0 ∨ J 164 35 < a9) ∧ (g9 = 0 ∨ ¬ s9 = 0)) : rmu J' ≤ J 164 37 - J 164 35 ∧ (J' 164 42 = 0 ∨ ¬ J' 164 38 = 0) := by
  obtain ⟨a, s, g, e1, e2, e3, h1, h2, h3⟩ := r
  unfold rmu
  rw [h.2 37 rfl, e1, e2, e3]
  refine ⟨?_, h3⟩
  split <;> omega
theorem rmu_ge {J : zJ} : J 164 37 - J 164 35 ≤ rmu J := by unfold rmu; split <;> omega
theorem rmu_gt {J : zJ} (h : ¬ J 164 38 = 0) : J 164 37 - J 164 35 < rmu J := by unfold rmu; rw [if_neg h]; omega
theorem RGw.go {J' J : zJ} (h : RGo J' J) (r : RSz J' ∧ (0 ≤ J' 164 36 ∧ J' 164 36 ≤ 700) ∧ ∃ a9 s9 g9, J' 164 35 = a9 ∧ J' 164 38 = s9 ∧ J' 164 42 = g9 ∧ J 164 35 ≤ a9 ∧ (s9 = 0 ∨ J 164 35 < a9) ∧ (g9 = 0 ∨ ¬ s9 = 0)) : RGw J' J := ⟨⟨h.1, fun k a _ _ => h.2 k a⟩, ⟨r.1, r.2.1, (rmu_go h r.2.2).2⟩, fun q => (h.2 43 rfl).symm.trans q, Int.le_trans (rmu_go h r.2.2).1 rmu_ge⟩
theorem RGw.wa {J' J : zJ} {z x : Int} (hp : RSP J) (h : zOf (zbut [164]) J' J ∧ ∀ k, ¬ k = 43 → ¬ k = 20 → J' 164 k = J 164 k) (h0 : J 164 43 = 0 ∨ ¬ J' 164 43 = 0) : RGw J' J := by
  refine ⟨⟨h.1, fun k _ b c => h.2 k b c⟩, ?_, fun q => by omega, ?_⟩
  · unfold RSP RSz
    rw [h.2 37 (by decide) (by decide), h.2 35 (by decide) (by decide), h.2 36 (by decide) (by decide), h.2 42 (by decide) (by decide), h.2 38 (by decide) (by decide)]
    exact hp
  · unfold rmu
    rw [h.2 37 (by decide) (by decide), h.2 35 (by decide) (by decide), h.2 38 (by decide) (by decide)]
    exact Int.le_refl _
set_option maxHeartbeats 4000000 in
set_option maxRecDepth 100000 in
theorem m_sign {l : Launch} {G : tb_G} (hl : l.stackTraces = false) (n : Nat) (J : zJ) (x : Int) (hr_x : -2147483648 ≤ x ∧ x < 2147483648)  (hP : RSP J) (hx : ¬ x = 0) : tz_Ok l G M_X12_sign 3 0 0 [.ref 164, zi x] n J (zqv (fun J' => RGw J' J ∧ (J' 164 43 = 0 → rmu J' < rmu J))) zN := by
  refine tz_Ok.of hl (by decide +kernel) rfl (tb_c1 rfl) (Nat.le_of_ble_eq_true rfl) ?_
  show tz_At l G M_X12_sign (tb_rm 3 0 0) none (tb_ZM G 0 0 (zQ n 0 (zqv (fun J' => RGw J' J ∧ (J' 164 43 = 0 → rmu J' < rmu J)))) (zX n 0 zN)) 0 0 n J 0 [some (.ref 164), some (zi x)] []
  refine tz_aload_n (pc := 0) dX12_sign_0 rfl rfl ?_
  refine tz_fI (pc := 1) (kz := 43) (v := (J 164 43)) dX12_sign_1 fl_X12_273 i_164_43 rfl rfl (fun r_1 => ?_)
  refine tz_if_ne (pc := 4) (tgt := 32) dX12_sign_4 (by decide) (by omega) (fun h_4 => ?_) (fun h_4 => ?_)
  · exact tz_vret (pc := 32) dX12_sign_32 rfl (Nat.le_of_ble_eq_true rfl) (Nat.le_of_ble_eq_true rfl) ⟨Nat.le_refl _, Nat.le_add_right _ _⟩ ⟨rfl, ⟨RGw.rf hP, fun q9 => by omega⟩⟩
  · refine tz_aload_n (pc := 7) dX12_sign_7 rfl rfl ?_
    refine tz_aload_n (pc := 8) dX12_sign_8 rfl rfl ?_
    refine tz_fI (pc := 9) (kz := 42) (v := (J 164 42)) dX12_sign_9 fl_X12_258 i_164_42 rfl rfl (fun r_9 => ?_)
    refine tz_iload_n (pc := 12) dX12_sign_12 rfl rfl ?_
    refine tz_icmp_ne (pc := 13) (tgt := 20) dX12_sign_13 (by decide) (by omega) (by omega) (fun h_13 => ?_) (fun h_13 => ?_)
    · refine tz_iconst (pc := 20) dX12_sign_20 ?_
      refine tz_iconst (pc := 21) dX12_sign_21 ?_
      refine tz_cV (pc := 22) (m_wants hl n _ _ _ (by decide) (by decide) (by decide)) vl_X12_276 dX12_sign_22 o_164 rfl rfl (Nat.le_of_ble_eq_true rfl) ⟨(Nat.le_of_ble_eq_true rfl), (Nat.le_of_ble_eq_true rfl)⟩ rfl rfl (Nat.le_of_ble_eq_true rfl) (Nat.le_of_ble_eq_true rfl) (fun r9 J_22 hq9 => ?_)
      obtain ⟨z_22, rfl, hz_22, a_22, b_22, c_22, d_22⟩ := hq9
      have w_22 : RGw J_22 J := RGw.wa (z := 0) (x := 0) hP a_22 (Or.inl (by omega))
      refine tz_if_eq (pc := 25) (tgt := 32) dX12_sign_25 (by decide) (by omega) (fun h_25 => ?_) (fun h_25 => ?_)
      · exact tz_vret (pc := 32) dX12_sign_32 rfl (Nat.le_of_ble_eq_true rfl) (Nat.le_of_ble_eq_true rfl) ⟨Nat.le_refl _, Nat.le_add_right _ _⟩ ⟨rfl, ⟨w_22, fun q9 => by omega⟩⟩
      · refine tz_aload_n (pc := 28) dX12_sign_28 rfl rfl ?_
        refine tz_cV (pc := 29) (m_go hl n _ w_22.2.1.1) vl_X12_280 dX12_sign_29 o_164 rfl rfl (Nat.le_of_ble_eq_true rfl) ⟨(Nat.le_of_ble_eq_true rfl), (Nat.le_of_ble_eq_true rfl)⟩ rfl rfl (Nat.le_of_ble_eq_true rfl) (Nat.le_of_ble_eq_true rfl) (fun r9 J_29 hq9 => ?_)
        obtain ⟨rfl, g1, g2, g3⟩ := hq9
        have w_g := RGw.go g1 ⟨g2, g3⟩
        exact tz_vret (pc := 32) dX12_sign_32 rfl (Nat.le_of_ble_eq_true rfl) (Nat.le_of_ble_eq_true rfl) ⟨Nat.le_refl _, Nat.le_add_right _ _⟩ ⟨rfl, ⟨w_22.tr w_g, fun _ => by obtain ⟨e9, _, e8⟩ := c_22 (by omega); subst e9; exact Int.lt_of_le_of_lt (rmu_go g1 g3.2).1 (rmu_gt (by have := hP.2.2; omega))⟩⟩
    · refine tz_iconst (pc := 16) dX12_sign_16 ?_
      refine tz_goto (pc := 17) (tgt := 21) dX12_sign_17 (by decide) ?_
      refine tz_iconst (pc := 21) dX12_sign_21 ?_
      refine tz_cV (pc := 22) (m_wants hl n _ _ _ (by decide) (by decide) (by decide)) vl_X12_276 dX12_sign_22 o_164 rfl rfl (Nat.le_of_ble_eq_true rfl) ⟨(Nat.le_of_ble_eq_true rfl), (Nat.le_of_ble_eq_true rfl)⟩ rfl rfl (Nat.le_of_ble_eq_true rfl) (Nat.le_of_ble_eq_true rfl) (fun r9 J_22 hq9 => ?_)
      obtain ⟨z_22, rfl, hz_22, a_22, b_22, c_22, d_22⟩ := hq9
      have w_22 : RGw J_22 J := RGw.wa (z := 0) (x := 0) hP a_22 (Or.inl (by omega))
      refine tz_if_eq (pc := 25) (tgt := 32) dX12_sign_25 (by decide) (by omega) (fun h_25 => ?_) (fun h_25 => ?_)
      · exact tz_vret (pc := 32) dX12_sign_32 rfl (Nat.le_of_ble_eq_true rfl) (Nat.le_of_ble_eq_true rfl) ⟨Nat.le_refl _, Nat.le_add_right _ _⟩ ⟨rfl, ⟨w_22, fun q9 => by omega⟩⟩
      · refine tz_aload_n (pc := 28) dX12_sign_28 rfl rfl ?_
        refine tz_cV (pc := 29) (m_go hl n _ w_22.2.1.1) vl_X12_280 dX12_sign_29 o_164 rfl rfl (Nat.le_of_ble_eq_true rfl) ⟨(Nat.le_of_ble_eq_true rfl), (Nat.le_of_ble_eq_true rfl)⟩ rfl rfl (Nat.le_of_ble_eq_true rfl) (Nat.le_of_ble_eq_true rfl) (fun r9 J_29 hq9 => ?_)
        obtain ⟨rfl, g1, g2, g3⟩ := hq9
        have w_g := RGw.go g1 ⟨g2, g3⟩
        exact tz_vret (pc := 32) dX12_sign_32 rfl (Nat.le_of_ble_eq_true rfl) (Nat.le_of_ble_eq_true rfl) ⟨Nat.le_refl _, Nat.le_add_right _ _⟩ ⟨rfl, ⟨w_22.tr w_g, fun _ => by obtain ⟨e9, _, e8⟩ := c_22 (by omega); subst e9; exact Int.lt_of_le_of_lt (rmu_go g1 g3.2).1 (rmu_gt (by have := hP.2.2; omega))⟩⟩

set_option maxHeartbeats 4000000 in
set_option maxRecDepth 100000 in
theorem m_number {l : Launch} {G : tb_G} (hl : l.stackTraces = false) (n : Nat) (J : zJ) (a : Int) (b : Int) (hr_a : -2147483648 ≤ a ∧ a < 2147483648) (hr_b : -2147483648 ≤ b ∧ b < 2147483648)  (hP : RSP J) (hab : a ≤ b) : tz_Ok l G M_X12_number 3 0 0 [.ref 164, zi a, zi b] n J (zqi (fun z J' => RGw J' J ∧ a ≤ z ∧ z ≤ b)) zN := by
  refine tz_Ok.of hl (by decide +kernel) rfl (tb_c1 rfl) (Nat.le_of_ble_eq_true rfl) ?_
  show tz_At l G M_X12_number (tb_rm 3 0 0) none (tb_ZM G 0 0 (zQ n 0 (zqi (fun z J' => RGw J' J ∧ a ≤ z ∧ z ≤ b))) (zX n 0 zN)) 0 0 n J 0 [some (.ref 164), some (zi a), some (zi b), none] []
  refine tz_aload_n (pc := 0) dX12_number_0 rfl rfl ?_
  refine tz_fI (pc := 1) (kz := 43) (v := (J 164 43)) dX12_number_1 fl_X12_273 i_164_43 rfl rfl (fun r_1 => ?_)
  refine tz_if_ne (pc := 4) (tgt := 45) dX12_number_4 (by decide) (by omega) (fun h_4 => ?_) (fun h_4 => ?_)
  · refine tz_iload_n (pc := 45) dX12_number_45 rfl rfl ?_
    exact tz_iret (pc := 46) (z := a) dX12_number_46 rfl (Nat.le_of_ble_eq_true rfl) (Nat.le_of_ble_eq_true rfl) ⟨Nat.le_refl _, Nat.le_add_right _ _⟩ ⟨_, rfl, (by omega), ⟨RGw.rf hP, by omega⟩⟩
  · refine tz_aload_n (pc := 7) dX12_number_7 rfl rfl ?_
    refine tz_aload_n (pc := 8) dX12_number_8 rfl rfl ?_
    refine tz_fI (pc := 9) (kz := 38) (v := (J 164 38)) dX12_number_9 fl_X12_261 i_164_38 rfl rfl (fun r_9 => ?_)
    refine tz_iconst (pc := 12) dX12_number_12 ?_
    refine tz_icmp_ne (pc := 13) (tgt := 20) dX12_number_13 (by decide) (by omega) (by decide) (fun h_13 => ?_) (fun h_13 => ?_)
    · refine tz_iconst (pc := 20) dX12_number_20 ?_
      refine tz_iconst (pc := 21) dX12_number_21 ?_
      refine tz_cV (pc := 22) (m_wants hl n _ _ _ (by decide) (by decide) (by decide)) vl_X12_276 dX12_number_22 o_164 rfl rfl (Nat.le_of_ble_eq_true rfl) ⟨(Nat.le_of_ble_eq_true rfl), (Nat.le_of_ble_eq_true rfl)⟩ rfl rfl (Nat.le_of_ble_eq_true rfl) (Nat.le_of_ble_eq_true rfl) (fun r9 J_22 hq9 => ?_)
      obtain ⟨z_22, rfl, hz_22, a_22, b_22, c_22, d_22⟩ := hq9
      have w_22 : RGw J_22 J := RGw.wa (z := 0) (x := 0) hP a_22 (Or.inl (by omega))
      refine tz_if_eq (pc := 25) (tgt := 45) dX12_number_25 (by decide) (by omega) (fun h_25 => ?_) (fun h_25 => ?_)
      · refine tz_iload_n (pc := 45) dX12_number_45 rfl rfl ?_
        exact tz_iret (pc := 46) (z := a) dX12_number_46 rfl (Nat.le_of_ble_eq_true rfl) (Nat.le_of_ble_eq_true rfl) ⟨Nat.le_refl _, Nat.le_add_right _ _⟩ ⟨_, rfl, (by omega), ⟨w_22, by omega⟩⟩
      · refine tz_aload_n (pc := 28) dX12_number_28 rfl rfl ?_
        refine tz_aload_n (pc := 29) dX12_number_29 rfl rfl ?_
        refine tz_fI (pc := 30) (kz := 39) (v := (J 164 39)) dX12_number_30 fl_X12_255 i_164_39 rfl (Eq.trans (a_22.2 39 (by decide) (by decide)) rfl) (fun r_30 => ?_)
        refine tz_iload_n (pc := 33) dX12_number_33 rfl rfl ?_
        refine tz_iload_n (pc := 34) dX12_number_34 rfl rfl ?_
        refine tz_cS (pc := 35) (m_within hl n _ _ _ _ (by omega) (by omega) (by omega)) sl_X12_283 dX12_number_35 rfl rfl (Nat.le_of_ble_eq_true rfl) ⟨(Nat.le_of_ble_eq_true rfl), (Nat.le_of_ble_eq_true rfl)⟩ rfl rfl (Nat.le_of_ble_eq_true rfl) (Nat.le_of_ble_eq_true rfl) (fun r9 J_35 hq9 => ?_)
        obtain ⟨z_35, rfl, hz_35, rfl, hw⟩ := hq9
        refine tz_iconst (pc := 38) dX12_number_38 ?_
        refine tz_cV (pc := 39) (m_wants hl n _ _ _ (by omega) (by decide) (by decide)) vl_X12_276 dX12_number_39 o_164 rfl rfl (Nat.le_of_ble_eq_true rfl) ⟨(Nat.le_of_ble_eq_true rfl), (Nat.le_of_ble_eq_true rfl)⟩ rfl rfl (Nat.le_of_ble_eq_true rfl) (Nat.le_of_ble_eq_true rfl) (fun r9 J_39 hq9 => ?_)
        obtain ⟨z_39, rfl, hz_39, a_39, b_39, c_39, d_39⟩ := hq9
        have w_39 : RGw J_39 J_22 := RGw.wa (z := 0) (x := 0) w_22.2.1 a_39 (Or.inl (by rw [← (c_22 (by omega)).1]; omega))
        refine tz_if_ne (pc := 42) (tgt := 47) dX12_number_42 (by decide) (by omega) (fun h_42 => ?_) (fun h_42 => ?_)
        · refine tz_aload_n (pc := 47) dX12_number_47 rfl rfl ?_
          refine tz_fI (pc := 48) (kz := 39) (v := (J 164 39)) dX12_number_48 fl_X12_255 i_164_39 rfl (Eq.trans (a_39.2 39 (by decide) (by decide)) (Eq.trans (a_22.2 39 (by decide) (by decide)) rfl)) (fun r_48 => ?_)
          refine tz_istore_n (pc := 51) (L2 := [_, _, _, _]) dX12_number_51 rfl (by decide) rfl ?_
          refine tz_aload_n (pc := 52) dX12_number_52 rfl rfl ?_
          refine tz_cV (pc := 53) (m_go hl n _ w_39.2.1.1) vl_X12_280 dX12_number_53 o_164 rfl rfl (Nat.le_of_ble_eq_true rfl) ⟨(Nat.le_of_ble_eq_true rfl), (Nat.le_of_ble_eq_true rfl)⟩ rfl rfl (Nat.le_of_ble_eq_true rfl) (Nat.le_of_ble_eq_true rfl) (fun r9 J_53 hq9 => ?_)
          obtain ⟨rfl, g1, g2, g3⟩ := hq9
          have w_g := RGw.go g1 ⟨g2, g3⟩
          refine tz_iload_n (pc := 56) dX12_number_56 rfl rfl ?_
          exact tz_iret (pc := 57) (z := (J 164 39)) dX12_number_57 rfl (Nat.le_of_ble_eq_true rfl) (Nat.le_of_ble_eq_true rfl) ⟨Nat.le_refl _, Nat.le_add_right _ _⟩ ⟨_, rfl, (by omega), ⟨(w_22.tr w_39).tr w_g, by omega⟩⟩
        · refine tz_iload_n (pc := 45) dX12_number_45 rfl rfl ?_
          exact tz_iret (pc := 46) (z := a) dX12_number_46 rfl (Nat.le_of_ble_eq_true rfl) (Nat.le_of_ble_eq_true rfl) ⟨Nat.le_refl _, Nat.le_add_right _ _⟩ ⟨_, rfl, (by omega), ⟨w_22.tr w_39, by omega⟩⟩
    · refine tz_iconst (pc := 16) dX12_number_16 ?_
      refine tz_goto (pc := 17) (tgt := 21) dX12_number_17 (by decide) ?_
      refine tz_iconst (pc := 21) dX12_number_21 ?_
      refine tz_cV (pc := 22) (m_wants hl n _ _ _ (by decide) (by decide) (by decide)) vl_X12_276 dX12_number_22 o_164 rfl rfl (Nat.le_of_ble_eq_true rfl) ⟨(Nat.le_of_ble_eq_true rfl), (Nat.le_of_ble_eq_true rfl)⟩ rfl rfl (Nat.le_of_ble_eq_true rfl) (Nat.le_of_ble_eq_true rfl) (fun r9 J_22 hq9 => ?_)
      obtain ⟨z_22, rfl, hz_22, a_22, b_22, c_22, d_22⟩ := hq9
      have w_22 : RGw J_22 J := RGw.wa (z := 0) (x := 0) hP a_22 (Or.inl (by omega))
      refine tz_if_eq (pc := 25) (tgt := 45) dX12_number_25 (by decide) (by omega) (fun h_25 => ?_) (fun h_25 => ?_)
      · refine tz_iload_n (pc := 45) dX12_number_45 rfl rfl ?_
        exact tz_iret (pc := 46) (z := a) dX12_number_46 rfl (Nat.le_of_ble_eq_true rfl) (Nat.le_of_ble_eq_true rfl) ⟨Nat.le_refl _, Nat.le_add_right _ _⟩ ⟨_, rfl, (by omega), ⟨w_22, by omega⟩⟩
      · refine tz_aload_n (pc := 28) dX12_number_28 rfl rfl ?_
        refine tz_aload_n (pc := 29) dX12_number_29 rfl rfl ?_
        refine tz_fI (pc := 30) (kz := 39) (v := (J 164 39)) dX12_number_30 fl_X12_255 i_164_39 rfl (Eq.trans (a_22.2 39 (by decide) (by decide)) rfl) (fun r_30 => ?_)
        refine tz_iload_n (pc := 33) dX12_number_33 rfl rfl ?_
        refine tz_iload_n (pc := 34) dX12_number_34 rfl rfl ?_
        refine tz_cS (pc := 35) (m_within hl n _ _ _ _ (by omega) (by omega) (by omega)) sl_X12_283 dX12_number_35 rfl rfl (Nat.le_of_ble_eq_true rfl) ⟨(Nat.le_of_ble_eq_true rfl), (Nat.le_of_ble_eq_true rfl)⟩ rfl rfl (Nat.le_of_ble_eq_true rfl) (Nat.le_of_ble_eq_true rfl) (fun r9 J_35 hq9 => ?_)
        obtain ⟨z_35, rfl, hz_35, rfl, hw⟩ := hq9
        refine tz_iconst (pc := 38) dX12_number_38 ?_
        refine tz_cV (pc := 39) (m_wants hl n _ _ _ (by omega) (by decide) (by decide)) vl_X12_276 dX12_number_39 o_164 rfl rfl (Nat.le_of_ble_eq_true rfl) ⟨(Nat.le_of_ble_eq_true rfl), (Nat.le_of_ble_eq_true rfl)⟩ rfl rfl (Nat.le_of_ble_eq_true rfl) (Nat.le_of_ble_eq_true rfl) (fun r9 J_39 hq9 => ?_)
        obtain ⟨z_39, rfl, hz_39, a_39, b_39, c_39, d_39⟩ := hq9
        have w_39 : RGw J_39 J_22 := RGw.wa (z := 0) (x := 0) w_22.2.1 a_39 (Or.inl (by rw [← (c_22 (by omega)).1]; omega))
        refine tz_if_ne (pc := 42) (tgt := 47) dX12_number_42 (by decide) (by omega) (fun h_42 => ?_) (fun h_42 => ?_)
        · refine tz_aload_n (pc := 47) dX12_number_47 rfl rfl ?_
          refine tz_fI (pc := 48) (kz := 39) (v := (J 164 39)) dX12_number_48 fl_X12_255 i_164_39 rfl (Eq.trans (a_39.2 39 (by decide) (by decide)) (Eq.trans (a_22.2 39 (by decide) (by decide)) rfl)) (fun r_48 => ?_)
          refine tz_istore_n (pc := 51) (L2 := [_, _, _, _]) dX12_number_51 rfl (by decide) rfl ?_
          refine tz_aload_n (pc := 52) dX12_number_52 rfl rfl ?_
          refine tz_cV (pc := 53) (m_go hl n _ w_39.2.1.1) vl_X12_280 dX12_number_53 o_164 rfl rfl (Nat.le_of_ble_eq_true rfl) ⟨(Nat.le_of_ble_eq_true rfl), (Nat.le_of_ble_eq_true rfl)⟩ rfl rfl (Nat.le_of_ble_eq_true rfl) (Nat.le_of_ble_eq_true rfl) (fun r9 J_53 hq9 => ?_)
          obtain ⟨rfl, g1, g2, g3⟩ := hq9
          have w_g := RGw.go g1 ⟨g2, g3⟩
          refine tz_iload_n (pc := 56) dX12_number_56 rfl rfl ?_
          exact tz_iret (pc := 57) (z := (J 164 39)) dX12_number_57 rfl (Nat.le_of_ble_eq_true rfl) (Nat.le_of_ble_eq_true rfl) ⟨Nat.le_refl _, Nat.le_add_right _ _⟩ ⟨_, rfl, (by omega), ⟨(w_22.tr w_39).tr w_g, by omega⟩⟩
        · refine tz_iload_n (pc := 45) dX12_number_45 rfl rfl ?_
          exact tz_iret (pc := 46) (z := a) dX12_number_46 rfl (Nat.le_of_ble_eq_true rfl) (Nat.le_of_ble_eq_true rfl) ⟨Nat.le_refl _, Nat.le_add_right _ _⟩ ⟨_, rfl, (by omega), ⟨w_22.tr w_39, by omega⟩⟩

end
section
/-! ===== a new int[3] ===== -/
def zro (J : zJ) (n : Nat) : zJ := fun c k => if c = n then 0 else J c k
theorem shT_new {n : Nat} (h : tb_N0 ≤ n) : tb_shT n = (100, 3, []) := by
  have hl : tb_shL.length = 184 := by decide +kernel
  unfold tb_shT
  rw [List.getD_eq_getElem?_getD, List.getElem?_eq_none (by rw [hl]; exact h)]
  rfl
theorem cA_new {n : Nat} (h : tb_N0 ≤ n) (hn : n < tb_sc) : tb_cA tb_shT n 3 = true := by
  unfold tb_cA
  rw [shT_new h]
  have e : (n != tb_sc) = true := bne_iff_ne.2 (Nat.ne_of_lt hn)
  rw [e]
  rfl
theorem zok.ro {n : Nat} {J : zJ} (h : zok n J) : zok (n + 1) (zro J n) := ⟨Nat.le_succ_of_le h.1, fun c k => by
  unfold zro
  split
  · decide
  · exact h.2 c k⟩
theorem tz_newa3 {l : Launch} {G : tb_G} {y : tb_Mt} {R : Room} {xt : Option (Nat × (Nat → Int32))} {Z : tb_CT → State → Prop} {k1 k2 n pc m1 m2 : Nat} {J : zJ} {L : List (Option Value)} {S : List Value} (hd : decode y.2.1 pc = .ok (.newarray .int, 2)) (hns : n < tb_sc) (h1 : k1 + 1 = m1) (h2 : k2 + 3 = m2) (hc : m1 ≤ R.cells) (hs : m2 ≤ R.slots) (kk : tz_At l G y R xt Z m1 m2 (n + 1) (zro J n) (pc + 2) L (.ref n :: S)) : tz_At l G y R xt Z k1 k2 n J pc L (zi 3 :: S) := fun ok => by
  refine tb_newa (len := 3) hd wk_arr_int hns rfl (by decide) h1 h2 rfl hc hs ?_
  have e1 : tb_sup tb_shT n (100, 3, []) = tb_shT := by
    funext k
    unfold tb_sup
    split
    · next h => rw [h, shT_new ok.1]
    · rfl
  have e2 : tb_row (zI J) n (fun _ => 0) = zI (zro J n) := by
    funext c k
    unfold tb_row zI zro
    split
    · next h => rfl
    · next h => rfl
  rw [e1, e2]
  exact kk ok.ro
end
section
theorem RGw.wb {J : zJ} {a b : Int} (hp : RSP J) (hb : ¬ a = 0) : RGw (zup (zup J 164 43 a) 164 20 b) J := RGw.wa (z := 0) (x := 0) hp ⟨zOf.up rfl (zOf.up rfl zOf.rf), fun k h1 h2 => (zup_ne h2).trans (zup_ne h1)⟩ (Or.inr (by show ¬ zup J 164 43 a 164 43 = 0; rw [zup_at]; exact hb))
set_option maxHeartbeats 4000000 in
set_option maxRecDepth 100000 in
theorem m_wantsW {l : Launch} {G : tb_G} (hl : l.stackTraces = false) (n : Nat) (J : zJ) (x : Int) (y : Int) (hr_x : -2147483648 ≤ x ∧ x < 2147483648) (hr_y : -2147483648 ≤ y ∧ y < 2147483648)  (hP : RSP J) (hy : ¬ y = 0) : tz_Ok l G M_X12_wants 0 0 0 [.ref 164, zi x, zi y] n J (zqi (fun z J' => RGw J' J ∧ (z = 0 ∨ z = 1) ∧ (z = 1 → J = J' ∧ J' 164 43 = 0 ∧ ¬ x = 0) ∧ (z = 0 → ¬ J' 164 43 = 0))) zN := by
  refine tz_Ok.of hl (by decide +kernel) rfl (tb_c1 rfl) (Nat.le_of_ble_eq_true rfl) ?_
  show tz_At l G M_X12_wants (tb_rm 0 0 0) none (tb_ZM G 0 0 (zQ n 0 (zqi (fun z J' => RGw J' J ∧ (z = 0 ∨ z = 1) ∧ (z = 1 → J = J' ∧ J' 164 43 = 0 ∧ ¬ x = 0) ∧ (z = 0 → ¬ J' 164 43 = 0)))) (zX n 0 zN)) 0 0 n J 0 [some (.ref 164), some (zi x), some (zi y)] []
  refine tz_aload_n (pc := 0) dX12_wants_0 rfl rfl ?_
  refine tz_fI (pc := 1) (kz := 43) (v := (J 164 43)) dX12_wants_1 fl_X12_273 i_164_43 rfl rfl (fun r_1 => ?_)
  refine tz_if_ne (pc := 4) (tgt := 24) dX12_wants_4 (by decide) (by omega) (fun h_4 => ?_) (fun h_4 => ?_)
  · refine tz_aload_n (pc := 24) dX12_wants_24 rfl rfl ?_
    refine tz_fI (pc := 25) (kz := 43) (v := (J 164 43)) dX12_wants_25 fl_X12_273 i_164_43 rfl rfl (fun r_25 => ?_)
    refine tz_if_ne (pc := 28) (tgt := 35) dX12_wants_28 (by decide) (by omega) (fun h_28 => ?_) (fun h_28 => ?_)
    · refine tz_iconst (pc := 35) dX12_wants_35 ?_
      exact tz_zret (pc := 36) (z := 0) dX12_wants_36 rfl (Or.inl rfl) (Nat.le_of_ble_eq_true rfl) (Nat.le_of_ble_eq_true rfl) ⟨Nat.le_refl _, Nat.le_add_right _ _⟩ ⟨_, rfl, (by decide), ⟨RGw.rf hP, by omega, fun q9 => ⟨rfl, by omega, by omega⟩, fun q9 => by omega⟩⟩
    · refine tz_iconst (pc := 31) dX12_wants_31 ?_
      refine tz_goto (pc := 32) (tgt := 36) dX12_wants_32 (by decide) ?_
      exact tz_zret (pc := 36) (z := 1) dX12_wants_36 rfl (Or.inr rfl) (Nat.le_of_ble_eq_true rfl) (Nat.le_of_ble_eq_true rfl) ⟨Nat.le_refl _, Nat.le_add_right _ _⟩ ⟨_, rfl, (by decide), ⟨RGw.rf hP, by omega, fun q9 => ⟨rfl, by omega, by omega⟩, fun q9 => by omega⟩⟩
  · refine tz_iload_n (pc := 7) dX12_wants_7 rfl rfl ?_
    refine tz_if_ne (pc := 8) (tgt := 24) dX12_wants_8 (by decide) (by omega) (fun h_8 => ?_) (fun h_8 => ?_)
    · refine tz_aload_n (pc := 24) dX12_wants_24 rfl rfl ?_
      refine tz_fI (pc := 25) (kz := 43) (v := (J 164 43)) dX12_wants_25 fl_X12_273 i_164_43 rfl rfl (fun r_25 => ?_)
      refine tz_if_ne (pc := 28) (tgt := 35) dX12_wants_28 (by decide) (by omega) (fun h_28 => ?_) (fun h_28 => ?_)
      · refine tz_iconst (pc := 35) dX12_wants_35 ?_
        exact tz_zret (pc := 36) (z := 0) dX12_wants_36 rfl (Or.inl rfl) (Nat.le_of_ble_eq_true rfl) (Nat.le_of_ble_eq_true rfl) ⟨Nat.le_refl _, Nat.le_add_right _ _⟩ ⟨_, rfl, (by decide), ⟨RGw.rf hP, by omega, fun q9 => ⟨rfl, by omega, by omega⟩, fun q9 => by omega⟩⟩
      · refine tz_iconst (pc := 31) dX12_wants_31 ?_
        refine tz_goto (pc := 32) (tgt := 36) dX12_wants_32 (by decide) ?_
        exact tz_zret (pc := 36) (z := 1) dX12_wants_36 rfl (Or.inr rfl) (Nat.le_of_ble_eq_true rfl) (Nat.le_of_ble_eq_true rfl) ⟨Nat.le_refl _, Nat.le_add_right _ _⟩ ⟨_, rfl, (by decide), ⟨RGw.rf hP, by omega, fun q9 => ⟨rfl, by omega, by omega⟩, fun q9 => by omega⟩⟩
    · refine tz_aload_n (pc := 11) dX12_wants_11 rfl rfl ?_
      refine tz_iload_n (pc := 12) dX12_wants_12 rfl rfl ?_
      refine tz_pI (pc := 13) (kz := 43) dX12_wants_13 fl_X12_273 i_164_43 rfl rfl (by omega) ?_
      refine tz_aload_n (pc := 16) dX12_wants_16 rfl rfl ?_
      refine tz_aload_n (pc := 17) dX12_wants_17 rfl rfl ?_
      refine tz_fI (pc := 18) (kz := 36) (v := (J 164 36)) dX12_wants_18 fl_X12_246 i_164_36 rfl rfl (fun r_18 => ?_)
      refine tz_pI (pc := 21) (kz := 20) dX12_wants_21 fl_X12_37 i_164_20 rfl rfl (by omega) ?_
      refine tz_aload_n (pc := 24) dX12_wants_24 rfl rfl ?_
      refine tz_fI (pc := 25) (kz := 43) (v := y) dX12_wants_25 fl_X12_273 i_164_43 rfl rfl (fun r_25 => ?_)
      refine tz_if_ne (pc := 28) (tgt := 35) dX12_wants_28 (by decide) (by omega) (fun h_28 => ?_) (fun h_28 => ?_)
      · refine tz_iconst (pc := 35) dX12_wants_35 ?_
        exact tz_zret (pc := 36) (z := 0) dX12_wants_36 rfl (Or.inl rfl) (Nat.le_of_ble_eq_true rfl) (Nat.le_of_ble_eq_true rfl) ⟨Nat.le_refl _, Nat.le_add_right _ _⟩ ⟨_, rfl, (by decide), ⟨RGw.wb hP hy, by omega, fun q9 => by omega, fun q9 => by show ¬ zup J 164 43 y 164 43 = 0; rw [zup_at]; exact hy⟩⟩
      · refine tz_iconst (pc := 31) dX12_wants_31 ?_
        refine tz_goto (pc := 32) (tgt := 36) dX12_wants_32 (by decide) ?_
        exact tz_zret (pc := 36) (z := 1) dX12_wants_36 rfl (Or.inr rfl) (Nat.le_of_ble_eq_true rfl) (Nat.le_of_ble_eq_true rfl) ⟨Nat.le_refl _, Nat.le_add_right _ _⟩ ⟨_, rfl, (by decide), ⟨RGw.wb hP hy, by omega, fun q9 => by omega, fun q9 => by show ¬ zup J 164 43 y 164 43 = 0; rw [zup_at]; exact hy⟩⟩

theorem m_goW {l : Launch} {G : tb_G} (hl : l.stackTraces = false) (n : Nat) (J : zJ) (hP : RSP J) : tz_Ok l G M_X12_go 2 0 0 [.ref 164] n J (zqv (fun J' => RGw J' J ∧ J' 164 43 = J 164 43)) zN := (m_go hl n J hP.1).mono (fun r J' _ ⟨h1, h2, h3, h4⟩ => ⟨h1, RGw.go h2 ⟨h3, h4⟩, h2.2 43 rfl⟩) (fun _ _ _ h => h)
/-- what a symbol of a text changes -/
def RSy (J' J : zJ) : Prop := (zOf (zbut [164, 169, 170, 171]) J' J ∧ ∀ k, rdF k = false → ¬ k = 43 → ¬ k = 20 → ¬ k = 44 → J' 164 k = J 164 k) ∧ RSP J' ∧ (J' 164 43 = 0 → J 164 43 = 0) ∧ rmu J' ≤ rmu J ∧ (J' 164 44 = J 164 44 ∨ J' 164 44 = J 164 44 + 1) ∧ (0 ≤ J' 164 44 ∧ J' 164 44 ≤ 10) ∧ (∀ k, ¬ k = 10 + J 164 44 → J' 169 k = J 169 k ∧ J' 170 k = J 170 k ∧ J' 171 k = J 171 k) ∧ (J' 164 44 = J 164 44 + 1 → 0 ≤ J' 170 (10 + J 164 44) ∧ J' 170 (10 + J 164 44) ≤ 3)
theorem RSy.w {J' J : zJ} (h : RGw J' J) (h0 : 0 ≤ J 164 44 ∧ J 164 44 ≤ 10) : RSy J' J := by
  have e : J' 164 44 = J 164 44 := h.1.2 44 rfl (by decide) (by decide)
  exact ⟨⟨h.1.1.mono (zbut_sub (fun c hc => by simp at hc ⊢; omega)), fun k a b c _ => h.1.2 k a b c⟩, h.2.1, h.2.2.1, h.2.2.2, Or.inl e, by omega, fun k _ => ⟨by rw [h.1.1 169 rfl], by rw [h.1.1 170 rfl], by rw [h.1.1 171 rfl]⟩, fun q => by omega⟩
theorem RSy.n {J1 J : zJ} {a b c : Int} (h : RGw J1 J) (h0 : 0 ≤ J 164 44 ∧ J 164 44 < 10) (hb : 0 ≤ b ∧ b ≤ 3) : RSy (zup (zup (zup (zup J1 169 (10 + J 164 44) a) 170 (10 + J 164 44) b) 171 (10 + J 164 44) c) 164 44 (J 164 44 + 1)) J := by
  have e4 : ∀ k, zup (zup (zup (zup J1 169 (10 + J 164 44) a) 170 (10 + J 164 44) b) 171 (10 + J 164 44) c) 164 44 (J 164 44 + 1) 164 k = if k = 44 then J 164 44 + 1 else J1 164 k := fun _ => rfl
  have e0 : ∀ k, zup (zup (zup (zup J1 169 (10 + J 164 44) a) 170 (10 + J 164 44) b) 171 (10 + J 164 44) c) 164 44 (J 164 44 + 1) 170 k = if k = 10 + J 164 44 then b else J1 170 k := fun _ => rfl
  have e9 : ∀ k, zup (zup (zup (zup J1 169 (10 + J 164 44) a) 170 (10 + J 164 44) b) 171 (10 + J 164 44) c) 164 44 (J 164 44 + 1) 169 k = if k = 10 + J 164 44 then a else J1 169 k := fun _ => rfl
  have e1 : ∀ k, zup (zup (zup (zup J1 169 (10 + J 164 44) a) 170 (10 + J 164 44) b) 171 (10 + J 164 44) c) 164 44 (J 164 44 + 1) 171 k = if k = 10 + J 164 44 then c else J1 171 k := fun _ => rfl
  refine ⟨⟨zOf.up rfl (zOf.up rfl (zOf.up rfl (zOf.up rfl (h.1.1.mono (zbut_sub (fun c hc => by simp at hc ⊢; omega)))))), fun k p q r t => ?_⟩, ?_, ?_, ?_, ?_, ?_, fun k hk => ?_, fun _ => ?_⟩
  · rw [e4, if_neg t]; exact h.1.2 k p q r
  · unfold RSP RSz
    rw [e4 37, e4 35, e4 36, e4 42, e4 38]
    exact h.2.1
  · rw [e4 43]; exact h.2.2.1
  · unfold rmu; rw [e4 37, e4 35, e4 38]; exact h.2.2.2
  · rw [e4 44]; exact Or.inr rfl
  · rw [e4 44, if_pos rfl]; omega
  · rw [e9, e0, e1, if_neg hk, if_neg hk, if_neg hk, h.1.1 169 rfl, h.1.1 170 rfl, h.1.1 171 rfl]
    exact ⟨rfl, rfl, rfl⟩
  · rw [e0, if_pos rfl]; exact hb
set_option maxHeartbeats 4000000 in
set_option maxRecDepth 100000 in
theorem m_symbol1 {l : Launch} {G : tb_G} (hl : l.stackTraces = false) (n : Nat) (J : zJ)    (hP : RSP J) (h0 : 0 ≤ J 164 44 ∧ J 164 44 ≤ 10) : tz_Ok l G M_X12_symbol1 4 0 0 [.ref 164] n J (zqv (fun J' => RSy J' J)) zN := by
  refine tz_Ok.of hl (by decide +kernel) rfl (tb_c1 rfl) (Nat.le_of_ble_eq_true rfl) ?_
  show tz_At l G M_X12_symbol1 (tb_rm 4 0 0) none (tb_ZM G 0 0 (zQ n 0 (zqv (fun J' => RSy J' J))) (zX n 0 zN)) 0 0 n J 0 [some (.ref 164), none, none, none] []
  refine tz_aload_n (pc := 0) dX12_symbol1_0 rfl rfl ?_
  refine tz_aload_n (pc := 1) dX12_symbol1_1 rfl rfl ?_
  refine tz_fI (pc := 2) (kz := 44) (v := (J 164 44)) dX12_symbol1_2 fl_X12_287 i_164_44 rfl rfl (fun r_2 => ?_)
  refine tz_bipush (pc := 5) dX12_symbol1_5 (by decide) ?_
  refine tz_icmp_ge (pc := 7) (tgt := 14) dX12_symbol1_7 (by decide) (by omega) (by decide) (fun h_7 => ?_) (fun h_7 => ?_)
  · refine tz_iconst (pc := 14) dX12_symbol1_14 ?_
    refine tz_iconst (pc := 15) dX12_symbol1_15 ?_
    refine tz_cV (pc := 16) (m_wantsW hl n _ _ _ (by decide) (by decide) (RGw.rf hP).2.1 (by decide)) vl_X12_276 dX12_symbol1_16 o_164 rfl rfl (Nat.le_of_ble_eq_true rfl) ⟨(Nat.le_of_ble_eq_true rfl), (Nat.le_of_ble_eq_true rfl)⟩ rfl rfl (Nat.le_of_ble_eq_true rfl) (Nat.le_of_ble_eq_true rfl) (fun r9 J_16 hq9 => ?_)
    obtain ⟨z_16, rfl, hz_16, w_16, b_16, c_16, d_16⟩ := hq9
    have p_16 := (RGw.rf hP).tr w_16
    have r_169 := p_16.2.1.2.1
    obtain rfl : z_16 = 0 := by rcases b_16 with e9 | e9; exact e9; exact absurd rfl (c_16 e9).2.2
    have v_16 := d_16 rfl
    clear b_16 c_16 d_16
    refine tz_if_neF (pc := 19) (tgt := 23) (by decide) dX12_symbol1_19 (by decide) (by decide) ?_
    exact tz_vret (pc := 22) dX12_symbol1_22 rfl (Nat.le_of_ble_eq_true rfl) (Nat.le_of_ble_eq_true rfl) ⟨Nat.le_refl _, Nat.le_add_right _ _⟩ ⟨rfl, RSy.w (p_16) h0⟩
  · refine tz_iconst (pc := 10) dX12_symbol1_10 ?_
    refine tz_goto (pc := 11) (tgt := 15) dX12_symbol1_11 (by decide) ?_
    refine tz_iconst (pc := 15) dX12_symbol1_15 ?_
    refine tz_cV (pc := 16) (m_wantsW hl n _ _ _ (by decide) (by decide) (RGw.rf hP).2.1 (by decide)) vl_X12_276 dX12_symbol1_16 o_164 rfl rfl (Nat.le_of_ble_eq_true rfl) ⟨(Nat.le_of_ble_eq_true rfl), (Nat.le_of_ble_eq_true rfl)⟩ rfl rfl (Nat.le_of_ble_eq_true rfl) (Nat.le_of_ble_eq_true rfl) (fun r9 J_16 hq9 => ?_)
    obtain ⟨z_16, rfl, hz_16, w_16, b_16, c_16, d_16⟩ := hq9
    have p_16 := (RGw.rf hP).tr w_16
    have r_169 := p_16.2.1.2.1
    have o_16 : (z_16 = 0 ∧ ¬ J_16 164 43 = 0) ∨ (z_16 = 1 ∧ J_16 164 43 = 0) := by rcases b_16 with e9 | e9; exact Or.inl ⟨e9, d_16 e9⟩; exact Or.inr ⟨e9, (c_16 e9).2.1⟩
    clear b_16 c_16 d_16
    rcases o_16 with ⟨rfl, v_16⟩ | ⟨rfl, v_16⟩
    · refine tz_if_neF (pc := 19) (tgt := 23) (by decide) dX12_symbol1_19 (by decide) (by decide) ?_
      exact tz_vret (pc := 22) dX12_symbol1_22 rfl (Nat.le_of_ble_eq_true rfl) (Nat.le_of_ble_eq_true rfl) ⟨Nat.le_refl _, Nat.le_add_right _ _⟩ ⟨rfl, RSy.w (p_16) h0⟩
    · refine tz_if_neT (pc := 19) (tgt := 23) (by decide) dX12_symbol1_19 (by decide) (by decide) ?_
      refine tz_aload_n (pc := 23) dX12_symbol1_23 rfl rfl ?_
      refine tz_cV (pc := 24) (m_goW hl n _ (p_16).2.1) vl_X12_280 dX12_symbol1_24 o_164 rfl rfl (Nat.le_of_ble_eq_true rfl) ⟨(Nat.le_of_ble_eq_true rfl), (Nat.le_of_ble_eq_true rfl)⟩ rfl rfl (Nat.le_of_ble_eq_true rfl) (Nat.le_of_ble_eq_true rfl) (fun r9 J_24 hq9 => ?_)
      obtain ⟨rfl, w_24, b_24⟩ := hq9
      have p_24 := (p_16).tr w_24
      have r_249 := p_24.2.1.2.1
      refine tz_aload_n (pc := 27) dX12_symbol1_27 rfl rfl ?_
      refine tz_aload_n (pc := 28) dX12_symbol1_28 rfl rfl ?_
      refine tz_fI (pc := 29) (kz := 38) (v := (J_24 164 38)) dX12_symbol1_29 fl_X12_261 i_164_38 rfl rfl (fun r_29 => ?_)
      refine tz_iconst (pc := 32) dX12_symbol1_32 ?_
      refine tz_icmp_ne (pc := 33) (tgt := 40) dX12_symbol1_33 (by decide) (by omega) (by decide) (fun h_33 => ?_) (fun h_33 => ?_)
      · refine tz_iconst (pc := 40) dX12_symbol1_40 ?_
        refine tz_iconst (pc := 41) dX12_symbol1_41 ?_
        refine tz_cV (pc := 42) (m_wantsW hl n _ _ _ (by decide) (by decide) (p_24).2.1 (by decide)) vl_X12_276 dX12_symbol1_42 o_164 rfl rfl (Nat.le_of_ble_eq_true rfl) ⟨(Nat.le_of_ble_eq_true rfl), (Nat.le_of_ble_eq_true rfl)⟩ rfl rfl (Nat.le_of_ble_eq_true rfl) (Nat.le_of_ble_eq_true rfl) (fun r9 J_42 hq9 => ?_)
        obtain ⟨z_42, rfl, hz_42, w_42, b_42, c_42, d_42⟩ := hq9
        have p_42 := (p_24).tr w_42
        have r_429 := p_42.2.1.2.1
        obtain rfl : z_42 = 0 := by rcases b_42 with e9 | e9; exact e9; exact absurd rfl (c_42 e9).2.2
        have v_42 := d_42 rfl
        clear b_42 c_42 d_42
        refine tz_if_eqT (pc := 45) (tgt := 98) (by decide) dX12_symbol1_45 (by decide) (by decide) ?_
        exact tz_vret (pc := 98) dX12_symbol1_98 rfl (Nat.le_of_ble_eq_true rfl) (Nat.le_of_ble_eq_true rfl) ⟨Nat.le_refl _, Nat.le_add_right _ _⟩ ⟨rfl, RSy.w (p_42) h0⟩
      · refine tz_iconst (pc := 36) dX12_symbol1_36 ?_
        refine tz_goto (pc := 37) (tgt := 41) dX12_symbol1_37 (by decide) ?_
        refine tz_iconst (pc := 41) dX12_symbol1_41 ?_
        refine tz_cV (pc := 42) (m_wantsW hl n _ _ _ (by decide) (by decide) (p_24).2.1 (by decide)) vl_X12_276 dX12_symbol1_42 o_164 rfl rfl (Nat.le_of_ble_eq_true rfl) ⟨(Nat.le_of_ble_eq_true rfl), (Nat.le_of_ble_eq_true rfl)⟩ rfl rfl (Nat.le_of_ble_eq_true rfl) (Nat.le_of_ble_eq_true rfl) (fun r9 J_42 hq9 => ?_)
        obtain ⟨z_42, rfl, hz_42, w_42, b_42, c_42, d_42⟩ := hq9
        have p_42 := (p_24).tr w_42
        have r_429 := p_42.2.1.2.1
        have o_42 : (z_42 = 0 ∧ ¬ J_42 164 43 = 0) ∨ (z_42 = 1 ∧ J_42 164 43 = 0) := by rcases b_42 with e9 | e9; exact Or.inl ⟨e9, d_42 e9⟩; exact Or.inr ⟨e9, (c_42 e9).2.1⟩
        clear b_42 c_42 d_42
        rcases o_42 with ⟨rfl, v_42⟩ | ⟨rfl, v_42⟩
        · refine tz_if_eqT (pc := 45) (tgt := 98) (by decide) dX12_symbol1_45 (by decide) (by decide) ?_
          exact tz_vret (pc := 98) dX12_symbol1_98 rfl (Nat.le_of_ble_eq_true rfl) (Nat.le_of_ble_eq_true rfl) ⟨Nat.le_refl _, Nat.le_add_right _ _⟩ ⟨rfl, RSy.w (p_42) h0⟩
        · refine tz_if_eqF (pc := 45) (tgt := 98) (by decide) dX12_symbol1_45 (by decide) (by decide) ?_
          refine tz_aload_n (pc := 48) dX12_symbol1_48 rfl rfl ?_
          refine tz_aload_n (pc := 49) dX12_symbol1_49 rfl rfl ?_
          refine tz_fI (pc := 50) (kz := 41) (v := (J_42 164 41)) dX12_symbol1_50 fl_X12_252 i_164_41 rfl rfl (fun r_50 => ?_)
          refine tz_iconst (pc := 53) dX12_symbol1_53 ?_
          refine tz_icmp_ne (pc := 54) (tgt := 61) dX12_symbol1_54 (by decide) (by omega) (by decide) (fun h_54 => ?_) (fun h_54 => ?_)
          · refine tz_iconst (pc := 61) dX12_symbol1_61 ?_
            refine tz_iconst (pc := 62) dX12_symbol1_62 ?_
            refine tz_cV (pc := 63) (m_wantsW hl n _ _ _ (by decide) (by decide) (p_42).2.1 (by decide)) vl_X12_276 dX12_symbol1_63 o_164 rfl rfl (Nat.le_of_ble_eq_true rfl) ⟨(Nat.le_of_ble_eq_true rfl), (Nat.le_of_ble_eq_true rfl)⟩ rfl rfl (Nat.le_of_ble_eq_true rfl) (Nat.le_of_ble_eq_true rfl) (fun r9 J_63 hq9 => ?_)
            obtain ⟨z_63, rfl, hz_63, w_63, b_63, c_63, d_63⟩ := hq9
            have p_63 := (p_42).tr w_63
            have r_639 := p_63.2.1.2.1
            obtain rfl : z_63 = 0 := by rcases b_63 with e9 | e9; exact e9; exact absurd rfl (c_63 e9).2.2
            have v_63 := d_63 rfl
            clear b_63 c_63 d_63
            refine tz_if_eqT (pc := 66) (tgt := 98) (by decide) dX12_symbol1_66 (by decide) (by decide) ?_
            exact tz_vret (pc := 98) dX12_symbol1_98 rfl (Nat.le_of_ble_eq_true rfl) (Nat.le_of_ble_eq_true rfl) ⟨Nat.le_refl _, Nat.le_add_right _ _⟩ ⟨rfl, RSy.w (p_63) h0⟩
          · refine tz_iconst (pc := 57) dX12_symbol1_57 ?_
            refine tz_goto (pc := 58) (tgt := 62) dX12_symbol1_58 (by decide) ?_
            refine tz_iconst (pc := 62) dX12_symbol1_62 ?_
            refine tz_cV (pc := 63) (m_wantsW hl n _ _ _ (by decide) (by decide) (p_42).2.1 (by decide)) vl_X12_276 dX12_symbol1_63 o_164 rfl rfl (Nat.le_of_ble_eq_true rfl) ⟨(Nat.le_of_ble_eq_true rfl), (Nat.le_of_ble_eq_true rfl)⟩ rfl rfl (Nat.le_of_ble_eq_true rfl) (Nat.le_of_ble_eq_true rfl) (fun r9 J_63 hq9 => ?_)
            obtain ⟨z_63, rfl, hz_63, w_63, b_63, c_63, d_63⟩ := hq9
            have p_63 := (p_42).tr w_63
            have r_639 := p_63.2.1.2.1
            have o_63 : (z_63 = 0 ∧ ¬ J_63 164 43 = 0) ∨ (z_63 = 1 ∧ J_63 164 43 = 0) := by rcases b_63 with e9 | e9; exact Or.inl ⟨e9, d_63 e9⟩; exact Or.inr ⟨e9, (c_63 e9).2.1⟩
            clear b_63 c_63 d_63
            rcases o_63 with ⟨rfl, v_63⟩ | ⟨rfl, v_63⟩
            · refine tz_if_eqT (pc := 66) (tgt := 98) (by decide) dX12_symbol1_66 (by decide) (by decide) ?_
              exact tz_vret (pc := 98) dX12_symbol1_98 rfl (Nat.le_of_ble_eq_true rfl) (Nat.le_of_ble_eq_true rfl) ⟨Nat.le_refl _, Nat.le_add_right _ _⟩ ⟨rfl, RSy.w (p_63) h0⟩
            · refine tz_if_eqF (pc := 66) (tgt := 98) (by decide) dX12_symbol1_66 (by decide) (by decide) ?_
              refine tz_aload_n (pc := 69) dX12_symbol1_69 rfl rfl ?_
              refine tz_aload_n (pc := 70) dX12_symbol1_70 rfl rfl ?_
              refine tz_aload_n (pc := 71) dX12_symbol1_71 rfl rfl ?_
              refine tz_aload_n (pc := 72) dX12_symbol1_72 rfl rfl ?_
              refine tz_fI (pc := 73) (kz := 36) (v := (J_63 164 36)) dX12_symbol1_73 fl_X12_246 i_164_36 rfl rfl (fun r_73 => ?_)
              refine tz_cV (pc := 76) (m_byteAt hl n _ _ (by omega) (by omega) (p_63).2.1.1.1.2) vl_X12_240 dX12_symbol1_76 o_164 rfl rfl (Nat.le_of_ble_eq_true rfl) ⟨(Nat.le_of_ble_eq_true rfl), (Nat.le_of_ble_eq_true rfl)⟩ rfl rfl (Nat.le_of_ble_eq_true rfl) (Nat.le_of_ble_eq_true rfl) (fun r9 J_76 hq9 => ?_)
              obtain ⟨z_76, rfl, hz_76, rfl, -, -⟩ := hq9
              refine tz_cV (pc := 79) (m_symOf hl n _ _ (by omega) (by rw [show (J_63 : zJ) 164 44 = (J 164 44) from (Eq.trans (w_63.1.2 44 rfl (by decide) (by decide)) (Eq.trans (w_42.1.2 44 rfl (by decide) (by decide)) (Eq.trans (w_24.1.2 44 rfl (by decide) (by decide)) (Eq.trans (w_16.1.2 44 rfl (by decide) (by decide)) rfl))))]; omega)) vl_X12_293 dX12_symbol1_79 o_164 rfl rfl (Nat.le_of_ble_eq_true rfl) ⟨(Nat.le_of_ble_eq_true rfl), (Nat.le_of_ble_eq_true rfl)⟩ rfl rfl (Nat.le_of_ble_eq_true rfl) (Nat.le_of_ble_eq_true rfl) (fun r9 J_79 hq9 => ?_)
              obtain ⟨z_79, rfl, hz_79, rfl, hs_79⟩ := hq9
              refine tz_iconst (pc := 82) dX12_symbol1_82 ?_
              refine tz_icmp_ne (pc := 83) (tgt := 90) dX12_symbol1_83 (by decide) (by omega) (by decide) (fun h_83 => ?_) (fun h_83 => ?_)
              · refine tz_iconst (pc := 90) dX12_symbol1_90 ?_
                refine tz_iconst (pc := 91) dX12_symbol1_91 ?_
                refine tz_cV (pc := 92) (m_wantsW hl n _ _ _ (by decide) (by decide) (p_63).2.1 (by decide)) vl_X12_276 dX12_symbol1_92 o_164 rfl rfl (Nat.le_of_ble_eq_true rfl) ⟨(Nat.le_of_ble_eq_true rfl), (Nat.le_of_ble_eq_true rfl)⟩ rfl rfl (Nat.le_of_ble_eq_true rfl) (Nat.le_of_ble_eq_true rfl) (fun r9 J_92 hq9 => ?_)
                obtain ⟨z_92, rfl, hz_92, w_92, b_92, c_92, d_92⟩ := hq9
                have p_92 := (p_63).tr w_92
                have r_929 := p_92.2.1.2.1
                obtain rfl : z_92 = 0 := by rcases b_92 with e9 | e9; exact e9; exact absurd rfl (c_92 e9).2.2
                have v_92 := d_92 rfl
                clear b_92 c_92 d_92
                refine tz_if_neF (pc := 95) (tgt := 99) (by decide) dX12_symbol1_95 (by decide) (by decide) ?_
                exact tz_vret (pc := 98) dX12_symbol1_98 rfl (Nat.le_of_ble_eq_true rfl) (Nat.le_of_ble_eq_true rfl) ⟨Nat.le_refl _, Nat.le_add_right _ _⟩ ⟨rfl, RSy.w (p_92) h0⟩
              · refine tz_iconst (pc := 86) dX12_symbol1_86 ?_
                refine tz_goto (pc := 87) (tgt := 91) dX12_symbol1_87 (by decide) ?_
                refine tz_iconst (pc := 91) dX12_symbol1_91 ?_
                refine tz_cV (pc := 92) (m_wantsW hl n _ _ _ (by decide) (by decide) (p_63).2.1 (by decide)) vl_X12_276 dX12_symbol1_92 o_164 rfl rfl (Nat.le_of_ble_eq_true rfl) ⟨(Nat.le_of_ble_eq_true rfl), (Nat.le_of_ble_eq_true rfl)⟩ rfl rfl (Nat.le_of_ble_eq_true rfl) (Nat.le_of_ble_eq_true rfl) (fun r9 J_92 hq9 => ?_)
                obtain ⟨z_92, rfl, hz_92, w_92, b_92, c_92, d_92⟩ := hq9
                have p_92 := (p_63).tr w_92
                have r_929 := p_92.2.1.2.1
                have o_92 : (z_92 = 0 ∧ ¬ J_92 164 43 = 0) ∨ (z_92 = 1 ∧ J_92 164 43 = 0) := by rcases b_92 with e9 | e9; exact Or.inl ⟨e9, d_92 e9⟩; exact Or.inr ⟨e9, (c_92 e9).2.1⟩
                clear b_92 c_92 d_92
                rcases o_92 with ⟨rfl, v_92⟩ | ⟨rfl, v_92⟩
                · refine tz_if_neF (pc := 95) (tgt := 99) (by decide) dX12_symbol1_95 (by decide) (by decide) ?_
                  exact tz_vret (pc := 98) dX12_symbol1_98 rfl (Nat.le_of_ble_eq_true rfl) (Nat.le_of_ble_eq_true rfl) ⟨Nat.le_refl _, Nat.le_add_right _ _⟩ ⟨rfl, RSy.w (p_92) h0⟩
                · refine tz_if_neT (pc := 95) (tgt := 99) (by decide) dX12_symbol1_95 (by decide) (by decide) ?_
                  refine tz_aload_n (pc := 99) dX12_symbol1_99 rfl rfl ?_
                  refine tz_aload_n (pc := 100) dX12_symbol1_100 rfl rfl ?_
                  refine tz_fI (pc := 101) (kz := 36) (v := (J_92 164 36)) dX12_symbol1_101 fl_X12_246 i_164_36 rfl rfl (fun r_101 => ?_)
                  refine tz_cV (pc := 104) (m_byteAt hl n _ _ (by omega) (by omega) (p_92).2.1.1.1.2) vl_X12_240 dX12_symbol1_104 o_164 rfl rfl (Nat.le_of_ble_eq_true rfl) ⟨(Nat.le_of_ble_eq_true rfl), (Nat.le_of_ble_eq_true rfl)⟩ rfl rfl (Nat.le_of_ble_eq_true rfl) (Nat.le_of_ble_eq_true rfl) (fun r9 J_104 hq9 => ?_)
                  obtain ⟨z_104, rfl, hz_104, rfl, -, -⟩ := hq9
                  refine tz_istore_n (pc := 107) (L2 := [_, _, _, _]) dX12_symbol1_107 rfl (by decide) rfl ?_
                  refine tz_aload_n (pc := 108) dX12_symbol1_108 rfl rfl ?_
                  refine tz_cV (pc := 109) (m_goW hl n _ (p_92).2.1) vl_X12_280 dX12_symbol1_109 o_164 rfl rfl (Nat.le_of_ble_eq_true rfl) ⟨(Nat.le_of_ble_eq_true rfl), (Nat.le_of_ble_eq_true rfl)⟩ rfl rfl (Nat.le_of_ble_eq_true rfl) (Nat.le_of_ble_eq_true rfl) (fun r9 J_109 hq9 => ?_)
                  obtain ⟨rfl, w_109, b_109⟩ := hq9
                  have p_109 := (p_92).tr w_109
                  have r_1099 := p_109.2.1.2.1
                  refine tz_aload_n (pc := 112) dX12_symbol1_112 rfl rfl ?_
                  refine tz_iconst (pc := 113) dX12_symbol1_113 ?_
                  refine tz_iconst (pc := 114) dX12_symbol1_114 ?_
                  refine tz_cV (pc := 115) (m_number hl n _ _ _ (by decide) (by decide) (p_109).2.1 (by decide)) vl_X12_290 dX12_symbol1_115 o_164 rfl rfl (Nat.le_of_ble_eq_true rfl) ⟨(Nat.le_of_ble_eq_true rfl), (Nat.le_of_ble_eq_true rfl)⟩ rfl rfl (Nat.le_of_ble_eq_true rfl) (Nat.le_of_ble_eq_true rfl) (fun r9 J_115 hq9 => ?_)
                  obtain ⟨z_115, rfl, hz_115, w_115, b_115, d_115⟩ := hq9
                  have p_115 := (p_109).tr w_115
                  have r_1159 := p_115.2.1.2.1
                  refine tz_istore_n (pc := 118) (L2 := [_, _, _, _]) dX12_symbol1_118 rfl (by decide) rfl ?_
                  refine tz_aload_n (pc := 119) dX12_symbol1_119 rfl rfl ?_
                  refine tz_iconst (pc := 120) dX12_symbol1_120 ?_
                  refine tz_bipush (pc := 121) dX12_symbol1_121 (by decide) ?_
                  refine tz_cV (pc := 123) (m_number hl n _ _ _ (by decide) (by decide) (p_115).2.1 (by decide)) vl_X12_290 dX12_symbol1_123 o_164 rfl rfl (Nat.le_of_ble_eq_true rfl) ⟨(Nat.le_of_ble_eq_true rfl), (Nat.le_of_ble_eq_true rfl)⟩ rfl rfl (Nat.le_of_ble_eq_true rfl) (Nat.le_of_ble_eq_true rfl) (fun r9 J_123 hq9 => ?_)
                  obtain ⟨z_123, rfl, hz_123, w_123, b_123, d_123⟩ := hq9
                  have p_123 := (p_115).tr w_123
                  have r_1239 := p_123.2.1.2.1
                  refine tz_istore_n (pc := 126) (L2 := [_, _, _, _]) dX12_symbol1_126 rfl (by decide) rfl ?_
                  refine tz_aload_n (pc := 127) dX12_symbol1_127 rfl rfl ?_
                  refine tz_fR (pc := 128) dX12_symbol1_128 fl_X12_22 r_164_4 ?_
                  refine tz_bipush (pc := 131) dX12_symbol1_131 (by decide) ?_
                  refine tz_aload_n (pc := 133) dX12_symbol1_133 rfl rfl ?_
                  refine tz_fI (pc := 134) (kz := 44) (v := (J 164 44)) dX12_symbol1_134 fl_X12_287 i_164_44 rfl (Eq.trans (w_123.1.2 44 rfl (by decide) (by decide)) (Eq.trans (w_115.1.2 44 rfl (by decide) (by decide)) (Eq.trans (w_109.1.2 44 rfl (by decide) (by decide)) (Eq.trans (w_92.1.2 44 rfl (by decide) (by decide)) (Eq.trans (w_63.1.2 44 rfl (by decide) (by decide)) (Eq.trans (w_42.1.2 44 rfl (by decide) (by decide)) (Eq.trans (w_24.1.2 44 rfl (by decide) (by decide)) (Eq.trans (w_16.1.2 44 rfl (by decide) (by decide)) rfl)))))))) (fun r_134 => ?_)
                  refine tz_iadd (pc := 137) (v := 10 + (J 164 44)) dX12_symbol1_137 rfl ?_
                  refine tz_iload_n (pc := 138) dX12_symbol1_138 rfl rfl ?_
                  refine tz_aS (pc := 139) (z := (10 + (J 164 44))) dX12_symbol1_139 a_169 rfl (by omega) (by omega) ?_
                  refine tz_aload_n (pc := 140) dX12_symbol1_140 rfl rfl ?_
                  refine tz_fR (pc := 141) dX12_symbol1_141 fl_X12_25 r_164_5 ?_
                  refine tz_bipush (pc := 144) dX12_symbol1_144 (by decide) ?_
                  refine tz_aload_n (pc := 146) dX12_symbol1_146 rfl rfl ?_
                  refine tz_fI (pc := 147) (kz := 44) (v := (J 164 44)) dX12_symbol1_147 fl_X12_287 i_164_44 rfl (Eq.trans (w_123.1.2 44 rfl (by decide) (by decide)) (Eq.trans (w_115.1.2 44 rfl (by decide) (by decide)) (Eq.trans (w_109.1.2 44 rfl (by decide) (by decide)) (Eq.trans (w_92.1.2 44 rfl (by decide) (by decide)) (Eq.trans (w_63.1.2 44 rfl (by decide) (by decide)) (Eq.trans (w_42.1.2 44 rfl (by decide) (by decide)) (Eq.trans (w_24.1.2 44 rfl (by decide) (by decide)) (Eq.trans (w_16.1.2 44 rfl (by decide) (by decide)) rfl)))))))) (fun r_147 => ?_)
                  refine tz_iadd (pc := 150) (v := 10 + (J 164 44)) dX12_symbol1_150 rfl ?_
                  refine tz_iload_n (pc := 151) dX12_symbol1_151 rfl rfl ?_
                  refine tz_aS (pc := 152) (z := (10 + (J 164 44))) dX12_symbol1_152 a_170 rfl (by omega) (by omega) ?_
                  refine tz_aload_n (pc := 153) dX12_symbol1_153 rfl rfl ?_
                  refine tz_fR (pc := 154) dX12_symbol1_154 fl_X12_28 r_164_6 ?_
                  refine tz_bipush (pc := 157) dX12_symbol1_157 (by decide) ?_
                  refine tz_aload_n (pc := 159) dX12_symbol1_159 rfl rfl ?_
                  refine tz_fI (pc := 160) (kz := 44) (v := (J 164 44)) dX12_symbol1_160 fl_X12_287 i_164_44 rfl (Eq.trans (w_123.1.2 44 rfl (by decide) (by decide)) (Eq.trans (w_115.1.2 44 rfl (by decide) (by decide)) (Eq.trans (w_109.1.2 44 rfl (by decide) (by decide)) (Eq.trans (w_92.1.2 44 rfl (by decide) (by decide)) (Eq.trans (w_63.1.2 44 rfl (by decide) (by decide)) (Eq.trans (w_42.1.2 44 rfl (by decide) (by decide)) (Eq.trans (w_24.1.2 44 rfl (by decide) (by decide)) (Eq.trans (w_16.1.2 44 rfl (by decide) (by decide)) rfl)))))))) (fun r_160 => ?_)
                  refine tz_iadd (pc := 163) (v := 10 + (J 164 44)) dX12_symbol1_163 rfl ?_
                  refine tz_iload_n (pc := 164) dX12_symbol1_164 rfl rfl ?_
                  refine tz_aS (pc := 165) (z := (10 + (J 164 44))) dX12_symbol1_165 a_171 rfl (by omega) (by omega) ?_
                  refine tz_aload_n (pc := 166) dX12_symbol1_166 rfl rfl ?_
                  refine tz_dup (pc := 167) dX12_symbol1_167 rfl ?_
                  refine tz_fI (pc := 168) (kz := 44) (v := (J 164 44)) dX12_symbol1_168 fl_X12_287 i_164_44 rfl (Eq.trans (w_123.1.2 44 rfl (by decide) (by decide)) (Eq.trans (w_115.1.2 44 rfl (by decide) (by decide)) (Eq.trans (w_109.1.2 44 rfl (by decide) (by decide)) (Eq.trans (w_92.1.2 44 rfl (by decide) (by decide)) (Eq.trans (w_63.1.2 44 rfl (by decide) (by decide)) (Eq.trans (w_42.1.2 44 rfl (by decide) (by decide)) (Eq.trans (w_24.1.2 44 rfl (by decide) (by decide)) (Eq.trans (w_16.1.2 44 rfl (by decide) (by decide)) rfl)))))))) (fun r_168 => ?_)
                  refine tz_iconst (pc := 171) dX12_symbol1_171 ?_
                  refine tz_iadd (pc := 172) (v := (J 164 44) + 1) dX12_symbol1_172 rfl ?_
                  refine tz_pI (pc := 173) (kz := 44) dX12_symbol1_173 fl_X12_287 i_164_44 rfl rfl (by omega) ?_
                  exact tz_vret (pc := 176) dX12_symbol1_176 rfl (Nat.le_of_ble_eq_true rfl) (Nat.le_of_ble_eq_true rfl) ⟨Nat.le_refl _, Nat.le_add_right _ _⟩ ⟨rfl, RSy.n p_123 (by omega) (by omega)⟩

end
section
set_option maxHeartbeats 4000000 in
set_option maxRecDepth 100000 in
theorem m_tuN {l : Launch} {G : tb_G} (hl : l.stackTraces = false) (n : Nat) (J : zJ) (h : Int) (x : Int) (y : Int) (w : Int) (hr_h : -2147483648 ≤ h ∧ h < 2147483648) (hr_x : -2147483648 ≤ x ∧ x < 2147483648) (hr_y : -2147483648 ≤ y ∧ y < 2147483648) (hr_w : -2147483648 ≤ w ∧ w < 2147483648) (b r d s m : Int) (hM : MS J b r d s m) (hh : -8 ≤ h ∧ h < s) (hk : h < 0) (hu : J 164 21 = 0 ∨ 0 < m) (hg : (0 < (0 : Int) → 0 ≤ x ∧ x < m) ∧ (1 < (0 : Int) → 0 ≤ y ∧ y < m) ∧ (2 < (0 : Int) → 0 ≤ w ∧ w < m)) : tz_Ok l G M_X12_termOf 2 0 0 [.ref 164, zi h, zi x, zi y, zi w] n J (zqi (fun z J' => ∃ m', MG [] [] (fun _ => false) J' J b r d s m m' ∧ 0 ≤ z ∧ z < m')) zN := by
  refine tz_Ok.of hl (by decide +kernel) rfl (tb_c1 rfl) (Nat.le_of_ble_eq_true rfl) ?_
  show tz_At l G M_X12_termOf (tb_rm 2 0 0) none (tb_ZM G 0 0 (zQ n 0 (zqi (fun z J' => ∃ m', MG [] [] (fun _ => false) J' J b r d s m m' ∧ 0 ≤ z ∧ z < m'))) (zX n 0 zN)) 0 0 n J 0 [some (.ref 164), some (zi h), some (zi x), some (zi y), some (zi w), none, none, none] []
  obtain ⟨hM1, hM2, hM3, hM4, hM5, hM6⟩ := id hM
  have hT := hM.told
  refine tz_aload_n (pc := 0) dX12_termOf_0 rfl rfl ?_
  refine tz_fI (pc := 1) (kz := 21) (v := (J 164 21)) dX12_termOf_1 fl_X12_92 i_164_21 rfl rfl (fun r_1 => ?_)
  refine tz_if_eq (pc := 4) (tgt := 9) dX12_termOf_4 (by decide) (by omega) (fun h_4 => ?_) (fun h_4 => ?_)
  · refine tz_iload_n (pc := 9) dX12_termOf_9 rfl rfl ?_
    refine tz_if_geF (pc := 10) (tgt := 17) (by omega) dX12_termOf_10 (by decide) (by omega) ?_
    refine tz_iconst (pc := 13) dX12_termOf_13 ?_
    refine tz_goto (pc := 14) (tgt := 28) dX12_termOf_14 (by decide) ?_
    refine tz_istore (pc := 28) (L2 := [_, _, _, _, _, _, _, _]) dX12_termOf_28 (by decide) rfl ?_
    refine tz_iconst (pc := 30) dX12_termOf_30 ?_
    refine tz_istore (pc := 31) (L2 := [_, _, _, _, _, _, _, _]) dX12_termOf_31 (by decide) rfl ?_
    have loop33 : ∀ (f9 : Nat) (t : Int), ((m - t).toNat) < f9 → (0 ≤ t ∧ t ≤ m) → (∀ q, 0 ≤ q → q < t → ¬ (J 166 (b + q) = h ∧ (0 < (0 : Int) → J 167 (3 * (b + q) + 0) = x) ∧ (1 < (0 : Int) → J 167 (3 * (b + q) + 1) = y) ∧ (2 < (0 : Int) → J 167 (3 * (b + q) + 2) = w))) → tz_At l G M_X12_termOf (tb_rm 2 0 0) none (tb_ZM G 0 0 (zQ n 0 (zqi (fun z J' => ∃ m', MG [] [] (fun _ => false) J' J b r d s m m' ∧ 0 ≤ z ∧ z < m'))) (zX n 0 zN)) 0 0 n J 33 [some (.ref 164), some (zi h), some (zi x), some (zi y), some (zi w), some (zi 0), some (zi t), none] [] := by
      intro f9
      induction f9 with
      | zero => intro t hm9; exact absurd hm9 (Nat.not_lt_zero _)
      | succ f9 ih33 =>
        intro t hm33 hq hn
        refine tz_iload (pc := 33) dX12_termOf_33 rfl ?_
        refine tz_aload_n (pc := 35) dX12_termOf_35 rfl rfl ?_
        refine tz_cV (pc := 36) (m_many hl n _ b r d s m hM) vl_X12_96 dX12_termOf_36 o_164 rfl rfl (Nat.le_of_ble_eq_true rfl) ⟨(Nat.le_of_ble_eq_true rfl), (Nat.le_of_ble_eq_true rfl)⟩ rfl rfl (Nat.le_of_ble_eq_true rfl) (Nat.le_of_ble_eq_true rfl) (fun r9 J_36 hq9 => ?_)
        obtain ⟨z_36, rfl, hz_36, rfl, rfl⟩ := hq9
        refine tz_icmp_ge (pc := 39) (tgt := 67) dX12_termOf_39 (by decide) (by omega) (by omega) (fun h_39 => ?_) (fun h_39 => ?_)
        · refine tz_iconst (pc := 67) dX12_termOf_67 ?_
          refine tz_istore (pc := 68) (L2 := [_, _, _, _, _, _, _, _]) dX12_termOf_68 (by decide) rfl ?_
          refine tz_iload (pc := 70) dX12_termOf_70 rfl ?_
          refine tz_if_leT (pc := 72) (tgt := 95) (by decide) dX12_termOf_72 (by decide) (by decide) ?_
          refine tz_iload (pc := 95) dX12_termOf_95 rfl ?_
          refine tz_iconst (pc := 97) dX12_termOf_97 ?_
          refine tz_icmp_leT (pc := 98) (tgt := 121) (by decide) dX12_termOf_98 (by decide) (by decide) (by decide) ?_
          refine tz_iload (pc := 121) dX12_termOf_121 rfl ?_
          refine tz_iconst (pc := 123) dX12_termOf_123 ?_
          refine tz_icmp_leT (pc := 124) (tgt := 148) (by decide) dX12_termOf_124 (by decide) (by decide) (by decide) ?_
          refine tz_aload_n (pc := 148) dX12_termOf_148 rfl rfl ?_
          refine tz_iload (pc := 149) dX12_termOf_149 rfl ?_
          refine tz_bipush (pc := 151) dX12_termOf_151 (by decide) ?_
          refine tz_icmp_gtF (pc := 153) (tgt := 166) (by decide) dX12_termOf_153 (by decide) (by decide) (by decide) ?_
          refine tz_aload_n (pc := 156) dX12_termOf_156 rfl rfl ?_
          refine tz_cV (pc := 157) (m_many hl n _ b r d s m hM) vl_X12_96 dX12_termOf_157 o_164 rfl rfl (Nat.le_of_ble_eq_true rfl) ⟨(Nat.le_of_ble_eq_true rfl), (Nat.le_of_ble_eq_true rfl)⟩ rfl rfl (Nat.le_of_ble_eq_true rfl) (Nat.le_of_ble_eq_true rfl) (fun r9 J_157 hq9 => ?_)
          obtain ⟨z_157, rfl, hz_157, rfl, rfl⟩ := hq9
          refine tz_sipush (pc := 160) dX12_termOf_160 (by decide) ?_
          refine tz_icmp_ne (pc := 163) (tgt := 170) dX12_termOf_163 (by decide) (by omega) (by decide) (fun h_163 => ?_) (fun h_163 => ?_)
          · refine tz_iconst (pc := 170) dX12_termOf_170 ?_
            refine tz_pZ (pc := 171) (kz := 21) dX12_termOf_171 fl_X12_92 i_164_21 rfl rfl (Or.inl rfl) ?_
            refine tz_aload_n (pc := 174) dX12_termOf_174 rfl rfl ?_
            refine tz_fI (pc := 175) (kz := 21) (v := 0) dX12_termOf_175 fl_X12_92 i_164_21 rfl rfl (fun _ => ?_)
            refine tz_if_eqT (pc := 178) (tgt := 183) (by decide) dX12_termOf_178 (by decide) (by decide) ?_
            refine tz_aload_n (pc := 183) dX12_termOf_183 rfl rfl ?_
            refine tz_cV (pc := 184) (m_many hl n _ b r d s m (hM.of ⟨zup_ne (by decide), zup_ne (by decide), zup_ne (by decide)⟩ rfl rfl rfl rfl rfl)) vl_X12_96 dX12_termOf_184 o_164 rfl rfl (Nat.le_of_ble_eq_true rfl) ⟨(Nat.le_of_ble_eq_true rfl), (Nat.le_of_ble_eq_true rfl)⟩ rfl rfl (Nat.le_of_ble_eq_true rfl) (Nat.le_of_ble_eq_true rfl) (fun r9 J_184 hq9 => ?_)
            obtain ⟨z_184, rfl, hz_184, rfl, rfl⟩ := hq9
            refine tz_istore (pc := 187) (L2 := [_, _, _, _, _, _, _, _]) dX12_termOf_187 (by decide) rfl ?_
            refine tz_aload_n (pc := 189) dX12_termOf_189 rfl rfl ?_
            refine tz_fR (pc := 190) dX12_termOf_190 fl_X12_13 r_164_1 ?_
            refine tz_aload_n (pc := 193) dX12_termOf_193 rfl rfl ?_
            refine tz_fI (pc := 194) (kz := 15) (v := b) dX12_termOf_194 fl_X12_71 i_164_15 rfl hM2 (fun r_194 => ?_)
            refine tz_iload (pc := 197) dX12_termOf_197 rfl ?_
            refine tz_iadd (pc := 199) (v := b + m) dX12_termOf_199 rfl ?_
            refine tz_iload_n (pc := 200) dX12_termOf_200 rfl rfl ?_
            refine tz_aS (pc := 201) (z := (b + m)) dX12_termOf_201 a_166 rfl (by omega) (by omega) ?_
            refine tz_aload_n (pc := 202) dX12_termOf_202 rfl rfl ?_
            refine tz_fR (pc := 203) dX12_termOf_203 fl_X12_16 r_164_2 ?_
            refine tz_iconst (pc := 206) dX12_termOf_206 ?_
            refine tz_aload_n (pc := 207) dX12_termOf_207 rfl rfl ?_
            refine tz_fI (pc := 208) (kz := 15) (v := b) dX12_termOf_208 fl_X12_71 i_164_15 rfl hM2 (fun r_208 => ?_)
            refine tz_iload (pc := 211) dX12_termOf_211 rfl ?_
            refine tz_iadd (pc := 213) (v := b + m) dX12_termOf_213 rfl ?_
            refine tz_imul (pc := 214) (v := 3 * (b + m)) dX12_termOf_214 rfl ?_
            refine tz_iload (pc := 215) dX12_termOf_215 rfl ?_
            refine tz_if_leT (pc := 217) (tgt := 224) (by decide) dX12_termOf_217 (by decide) (by decide) ?_
            refine tz_iconst (pc := 224) dX12_termOf_224 ?_
            refine tz_aS (pc := 225) (z := (3 * (b + m))) dX12_termOf_225 a_167 rfl (by omega) (by decide) ?_
            refine tz_aload_n (pc := 226) dX12_termOf_226 rfl rfl ?_
            refine tz_fR (pc := 227) dX12_termOf_227 fl_X12_16 r_164_2 ?_
            refine tz_iconst (pc := 230) dX12_termOf_230 ?_
            refine tz_aload_n (pc := 231) dX12_termOf_231 rfl rfl ?_
            refine tz_fI (pc := 232) (kz := 15) (v := b) dX12_termOf_232 fl_X12_71 i_164_15 rfl hM2 (fun r_232 => ?_)
            refine tz_iload (pc := 235) dX12_termOf_235 rfl ?_
            refine tz_iadd (pc := 237) (v := b + m) dX12_termOf_237 rfl ?_
            refine tz_imul (pc := 238) (v := 3 * (b + m)) dX12_termOf_238 rfl ?_
            refine tz_iconst (pc := 239) dX12_termOf_239 ?_
            refine tz_iadd (pc := 240) (v := (3 * (b + m)) + 1) dX12_termOf_240 rfl ?_
            refine tz_iload (pc := 241) dX12_termOf_241 rfl ?_
            refine tz_iconst (pc := 243) dX12_termOf_243 ?_
            refine tz_icmp_leT (pc := 244) (tgt := 251) (by decide) dX12_termOf_244 (by decide) (by decide) (by decide) ?_
            refine tz_iconst (pc := 251) dX12_termOf_251 ?_
            refine tz_aS (pc := 252) (z := ((3 * (b + m)) + 1)) dX12_termOf_252 a_167 rfl (by omega) (by decide) ?_
            refine tz_aload_n (pc := 253) dX12_termOf_253 rfl rfl ?_
            refine tz_fR (pc := 254) dX12_termOf_254 fl_X12_16 r_164_2 ?_
            refine tz_iconst (pc := 257) dX12_termOf_257 ?_
            refine tz_aload_n (pc := 258) dX12_termOf_258 rfl rfl ?_
            refine tz_fI (pc := 259) (kz := 15) (v := b) dX12_termOf_259 fl_X12_71 i_164_15 rfl hM2 (fun r_259 => ?_)
            refine tz_iload (pc := 262) dX12_termOf_262 rfl ?_
            refine tz_iadd (pc := 264) (v := b + m) dX12_termOf_264 rfl ?_
            refine tz_imul (pc := 265) (v := 3 * (b + m)) dX12_termOf_265 rfl ?_
            refine tz_iconst (pc := 266) dX12_termOf_266 ?_
            refine tz_iadd (pc := 267) (v := (3 * (b + m)) + 2) dX12_termOf_267 rfl ?_
            refine tz_iload (pc := 268) dX12_termOf_268 rfl ?_
            refine tz_iconst (pc := 270) dX12_termOf_270 ?_
            refine tz_icmp_leT (pc := 271) (tgt := 279) (by decide) dX12_termOf_271 (by decide) (by decide) (by decide) ?_
            refine tz_iconst (pc := 279) dX12_termOf_279 ?_
            refine tz_aS (pc := 280) (z := ((3 * (b + m)) + 2)) dX12_termOf_280 a_167 rfl (by omega) (by decide) ?_
            refine tz_aload_n (pc := 281) dX12_termOf_281 rfl rfl ?_
            refine tz_fR (pc := 282) dX12_termOf_282 fl_X12_19 r_164_3 ?_
            refine tz_aload_n (pc := 285) dX12_termOf_285 rfl rfl ?_
            refine tz_fI (pc := 286) (kz := 15) (v := b) dX12_termOf_286 fl_X12_71 i_164_15 rfl hM2 (fun r_286 => ?_)
            refine tz_iload (pc := 289) dX12_termOf_289 rfl ?_
            refine tz_iadd (pc := 291) (v := b + m) dX12_termOf_291 rfl ?_
            refine tz_iload (pc := 292) dX12_termOf_292 rfl ?_
            refine tz_aS (pc := 294) (z := (b + m)) dX12_termOf_294 a_168 rfl (by omega) (by decide) ?_
            refine tz_aload_n (pc := 295) dX12_termOf_295 rfl rfl ?_
            refine tz_fR (pc := 296) dX12_termOf_296 fl_X12_9 r_164_0 ?_
            refine tz_aload_n (pc := 299) dX12_termOf_299 rfl rfl ?_
            refine tz_fI (pc := 300) (kz := 16) (v := r) dX12_termOf_300 fl_X12_85 i_164_16 rfl hM3 (fun r_300 => ?_)
            refine tz_iconst (pc := 303) dX12_termOf_303 ?_
            refine tz_iadd (pc := 304) (v := r) dX12_termOf_304 (Int.add_zero _) ?_
            refine tz_dup2 (pc := 305) dX12_termOf_305 rfl rfl ?_
            refine tz_aL (pc := 306) (z := r) (v := m) dX12_termOf_306 a_165 rfl (by omega) hM5 (fun r_306 => ?_)
            refine tz_iconst (pc := 307) dX12_termOf_307 ?_
            refine tz_iadd (pc := 308) (v := m + 1) dX12_termOf_308 rfl ?_
            refine tz_aS (pc := 309) (z := r) dX12_termOf_309 a_165 rfl (by omega) (by omega) ?_
            refine tz_iload (pc := 310) dX12_termOf_310 rfl ?_
            exact tz_iret (pc := 312) (z := m) dX12_termOf_312 rfl (Nat.le_of_ble_eq_true rfl) (Nat.le_of_ble_eq_true rfl) ⟨Nat.le_refl _, Nat.le_add_right _ _⟩ ⟨_, rfl, (by omega), ⟨m + 1, hM.push (A := 0) (x := x) (y := y) (w := w) (by omega) hh (by unfold arh; rw [if_pos hk]) (by decide) (fun g => absurd g (by decide)) (fun g => absurd g (by decide)) (fun g => absurd g (by decide)) (fun q a c => hn q a (by omega)) (by omega) (by omega) h_4, by omega⟩⟩
          · refine tz_iconst (pc := 166) dX12_termOf_166 ?_
            refine tz_goto (pc := 167) (tgt := 171) dX12_termOf_167 (by decide) ?_
            refine tz_pZ (pc := 171) (kz := 21) dX12_termOf_171 fl_X12_92 i_164_21 rfl rfl (Or.inr rfl) ?_
            refine tz_aload_n (pc := 174) dX12_termOf_174 rfl rfl ?_
            refine tz_fI (pc := 175) (kz := 21) (v := 1) dX12_termOf_175 fl_X12_92 i_164_21 rfl rfl (fun _ => ?_)
            refine tz_if_eqF (pc := 178) (tgt := 183) (by decide) dX12_termOf_178 (by decide) (by decide) ?_
            refine tz_iconst (pc := 181) dX12_termOf_181 ?_
            exact tz_iret (pc := 182) (z := 0) dX12_termOf_182 rfl (Nat.le_of_ble_eq_true rfl) (Nat.le_of_ble_eq_true rfl) ⟨Nat.le_refl _, Nat.le_add_right _ _⟩ ⟨_, rfl, (by decide), ⟨m, (MG.rf hM).full (fun q => absurd q (by decide)), by omega⟩⟩
        · refine tz_aload_n (pc := 42) dX12_termOf_42 rfl rfl ?_
          refine tz_iload (pc := 43) dX12_termOf_43 rfl ?_
          refine tz_iload_n (pc := 45) dX12_termOf_45 rfl rfl ?_
          refine tz_iload (pc := 46) dX12_termOf_46 rfl ?_
          refine tz_iload_n (pc := 48) dX12_termOf_48 rfl rfl ?_
          refine tz_iload_n (pc := 49) dX12_termOf_49 rfl rfl ?_
          refine tz_iload (pc := 50) dX12_termOf_50 rfl ?_
          refine tz_cV (pc := 52) (m_isThat hl n _ _ _ _ _ _ _ (by omega) (by omega) (by decide) (by omega) (by omega) (by omega) b r d s m hM (by omega)) vl_X12_100 dX12_termOf_52 o_164 rfl rfl (Nat.le_of_ble_eq_true rfl) ⟨(Nat.le_of_ble_eq_true rfl), (Nat.le_of_ble_eq_true rfl)⟩ rfl rfl (Nat.le_of_ble_eq_true rfl) (Nat.le_of_ble_eq_true rfl) (fun r9 J_52 hq9 => ?_)
          obtain ⟨zi9, rfl, hz_52, rfl, hi1, hi2⟩ := hq9
          refine tz_if_eq (pc := 55) (tgt := 61) dX12_termOf_55 (by decide) (by omega) (fun h_55 => ?_) (fun h_55 => ?_)
          · refine tz_iinc (pc := 61) (z := t + 1) (L2 := [_, _, _, _, _, _, _, _]) dX12_termOf_61 rfl (by omega) rfl ?_
            refine tz_goto (pc := 64) (tgt := 33) dX12_termOf_64 (by decide) ?_
            exact ih33 (t + 1) (by omega) (by omega) (fun q a c => (Decidable.em (q = t)).elim (fun e => by rw [e]; exact fun e9 => by have := hi2.mpr e9; omega) (fun e => hn q a (by omega)))
          · refine tz_iload (pc := 58) dX12_termOf_58 rfl ?_
            exact tz_iret (pc := 60) (z := t) dX12_termOf_60 rfl (Nat.le_of_ble_eq_true rfl) (Nat.le_of_ble_eq_true rfl) ⟨Nat.le_refl _, Nat.le_add_right _ _⟩ ⟨_, rfl, (by omega), ⟨m, MG.rf hM, by omega⟩⟩
    exact loop33 _ 0 (Nat.lt_succ_self _) (by omega) (fun q a c => by omega)
  · refine tz_iconst (pc := 7) dX12_termOf_7 ?_
    exact tz_iret (pc := 8) (z := 0) dX12_termOf_8 rfl (Nat.le_of_ble_eq_true rfl) (Nat.le_of_ble_eq_true rfl) ⟨Nat.le_refl _, Nat.le_add_right _ _⟩ ⟨_, rfl, (by decide), ⟨m, MG.rf hM, by omega⟩⟩

set_option maxHeartbeats 4000000 in
set_option maxRecDepth 100000 in
theorem m_tu0 {l : Launch} {G : tb_G} (hl : l.stackTraces = false) (n : Nat) (J : zJ) (h : Int) (x : Int) (y : Int) (w : Int) (hr_h : -2147483648 ≤ h ∧ h < 2147483648) (hr_x : -2147483648 ≤ x ∧ x < 2147483648) (hr_y : -2147483648 ≤ y ∧ y < 2147483648) (hr_w : -2147483648 ≤ w ∧ w < 2147483648) (b r d s m : Int) (hM : MS J b r d s m) (hh : -8 ≤ h ∧ h < s) (hk : 0 ≤ h ∧ J 170 (d + h) = 0) (hu : J 164 21 = 0 ∨ 0 < m) (hg : (0 < (0 : Int) → 0 ≤ x ∧ x < m) ∧ (1 < (0 : Int) → 0 ≤ y ∧ y < m) ∧ (2 < (0 : Int) → 0 ≤ w ∧ w < m)) : tz_Ok l G M_X12_termOf 2 0 0 [.ref 164, zi h, zi x, zi y, zi w] n J (zqi (fun z J' => ∃ m', MG [] [] (fun _ => false) J' J b r d s m m' ∧ 0 ≤ z ∧ z < m')) zN := by
  refine tz_Ok.of hl (by decide +kernel) rfl (tb_c1 rfl) (Nat.le_of_ble_eq_true rfl) ?_
  show tz_At l G M_X12_termOf (tb_rm 2 0 0) none (tb_ZM G 0 0 (zQ n 0 (zqi (fun z J' => ∃ m', MG [] [] (fun _ => false) J' J b r d s m m' ∧ 0 ≤ z ∧ z < m'))) (zX n 0 zN)) 0 0 n J 0 [some (.ref 164), some (zi h), some (zi x), some (zi y), some (zi w), none, none, none] []
  obtain ⟨hM1, hM2, hM3, hM4, hM5, hM6⟩ := id hM
  have hT := hM.told
  refine tz_aload_n (pc := 0) dX12_termOf_0 rfl rfl ?_
  refine tz_fI (pc := 1) (kz := 21) (v := (J 164 21)) dX12_termOf_1 fl_X12_92 i_164_21 rfl rfl (fun r_1 => ?_)
  refine tz_if_eq (pc := 4) (tgt := 9) dX12_termOf_4 (by decide) (by omega) (fun h_4 => ?_) (fun h_4 => ?_)
  · refine tz_iload_n (pc := 9) dX12_termOf_9 rfl rfl ?_
    refine tz_if_geT (pc := 10) (tgt := 17) (by omega) dX12_termOf_10 (by decide) (by omega) ?_
    refine tz_aload_n (pc := 17) dX12_termOf_17 rfl rfl ?_
    refine tz_fR (pc := 18) dX12_termOf_18 fl_X12_25 r_164_5 ?_
    refine tz_aload_n (pc := 21) dX12_termOf_21 rfl rfl ?_
    refine tz_fI (pc := 22) (kz := 17) (v := d) dX12_termOf_22 fl_X12_82 i_164_17 rfl hM4 (fun r_22 => ?_)
    refine tz_iload_n (pc := 25) dX12_termOf_25 rfl rfl ?_
    refine tz_iadd (pc := 26) (v := d + h) dX12_termOf_26 rfl ?_
    refine tz_aL (pc := 27) (z := (d + h)) (v := 0) dX12_termOf_27 a_170 rfl (by omega) hk.2 (fun _ => ?_)
    refine tz_istore (pc := 28) (L2 := [_, _, _, _, _, _, _, _]) dX12_termOf_28 (by decide) rfl ?_
    refine tz_iconst (pc := 30) dX12_termOf_30 ?_
    refine tz_istore (pc := 31) (L2 := [_, _, _, _, _, _, _, _]) dX12_termOf_31 (by decide) rfl ?_
    have loop33 : ∀ (f9 : Nat) (t : Int), ((m - t).toNat) < f9 → (0 ≤ t ∧ t ≤ m) → (∀ q, 0 ≤ q → q < t → ¬ (J 166 (b + q) = h ∧ (0 < (0 : Int) → J 167 (3 * (b + q) + 0) = x) ∧ (1 < (0 : Int) → J 167 (3 * (b + q) + 1) = y) ∧ (2 < (0 : Int) → J 167 (3 * (b + q) + 2) = w))) → tz_At l G M_X12_termOf (tb_rm 2 0 0) none (tb_ZM G 0 0 (zQ n 0 (zqi (fun z J' => ∃ m', MG [] [] (fun _ => false) J' J b r d s m m' ∧ 0 ≤ z ∧ z < m'))) (zX n 0 zN)) 0 0 n J 33 [some (.ref 164), some (zi h), some (zi x), some (zi y), some (zi w), some (zi 0), some (zi t), none] [] := by
      intro f9
      induction f9 with
      | zero => intro t hm9; exact absurd hm9 (Nat.not_lt_zero _)
      | succ f9 ih33 =>
        intro t hm33 hq hn
        refine tz_iload (pc := 33) dX12_termOf_33 rfl ?_
        refine tz_aload_n (pc := 35) dX12_termOf_35 rfl rfl ?_
        refine tz_cV (pc := 36) (m_many hl n _ b r d s m hM) vl_X12_96 dX12_termOf_36 o_164 rfl rfl (Nat.le_of_ble_eq_true rfl) ⟨(Nat.le_of_ble_eq_true rfl), (Nat.le_of_ble_eq_true rfl)⟩ rfl rfl (Nat.le_of_ble_eq_true rfl) (Nat.le_of_ble_eq_true rfl) (fun r9 J_36 hq9 => ?_)
        obtain ⟨z_36, rfl, hz_36, rfl, rfl⟩ := hq9
        refine tz_icmp_ge (pc := 39) (tgt := 67) dX12_termOf_39 (by decide) (by omega) (by omega) (fun h_39 => ?_) (fun h_39 => ?_)
        · refine tz_iconst (pc := 67) dX12_termOf_67 ?_
          refine tz_istore (pc := 68) (L2 := [_, _, _, _, _, _, _, _]) dX12_termOf_68 (by decide) rfl ?_
          refine tz_iload (pc := 70) dX12_termOf_70 rfl ?_
          refine tz_if_leT (pc := 72) (tgt := 95) (by decide) dX12_termOf_72 (by decide) (by decide) ?_
          refine tz_iload (pc := 95) dX12_termOf_95 rfl ?_
          refine tz_iconst (pc := 97) dX12_termOf_97 ?_
          refine tz_icmp_leT (pc := 98) (tgt := 121) (by decide) dX12_termOf_98 (by decide) (by decide) (by decide) ?_
          refine tz_iload (pc := 121) dX12_termOf_121 rfl ?_
          refine tz_iconst (pc := 123) dX12_termOf_123 ?_
          refine tz_icmp_leT (pc := 124) (tgt := 148) (by decide) dX12_termOf_124 (by decide) (by decide) (by decide) ?_
          refine tz_aload_n (pc := 148) dX12_termOf_148 rfl rfl ?_
          refine tz_iload (pc := 149) dX12_termOf_149 rfl ?_
          refine tz_bipush (pc := 151) dX12_termOf_151 (by decide) ?_
          refine tz_icmp_gtF (pc := 153) (tgt := 166) (by decide) dX12_termOf_153 (by decide) (by decide) (by decide) ?_
          refine tz_aload_n (pc := 156) dX12_termOf_156 rfl rfl ?_
          refine tz_cV (pc := 157) (m_many hl n _ b r d s m hM) vl_X12_96 dX12_termOf_157 o_164 rfl rfl (Nat.le_of_ble_eq_true rfl) ⟨(Nat.le_of_ble_eq_true rfl), (Nat.le_of_ble_eq_true rfl)⟩ rfl rfl (Nat.le_of_ble_eq_true rfl) (Nat.le_of_ble_eq_true rfl) (fun r9 J_157 hq9 => ?_)
          obtain ⟨z_157, rfl, hz_157, rfl, rfl⟩ := hq9
          refine tz_sipush (pc := 160) dX12_termOf_160 (by decide) ?_
          refine tz_icmp_ne (pc := 163) (tgt := 170) dX12_termOf_163 (by decide) (by omega) (by decide) (fun h_163 => ?_) (fun h_163 => ?_)
          · refine tz_iconst (pc := 170) dX12_termOf_170 ?_
            refine tz_pZ (pc := 171) (kz := 21) dX12_termOf_171 fl_X12_92 i_164_21 rfl rfl (Or.inl rfl) ?_
            refine tz_aload_n (pc := 174) dX12_termOf_174 rfl rfl ?_
            refine tz_fI (pc := 175) (kz := 21) (v := 0) dX12_termOf_175 fl_X12_92 i_164_21 rfl rfl (fun _ => ?_)
            refine tz_if_eqT (pc := 178) (tgt := 183) (by decide) dX12_termOf_178 (by decide) (by decide) ?_
            refine tz_aload_n (pc := 183) dX12_termOf_183 rfl rfl ?_
            refine tz_cV (pc := 184) (m_many hl n _ b r d s m (hM.of ⟨zup_ne (by decide), zup_ne (by decide), zup_ne (by decide)⟩ rfl rfl rfl rfl rfl)) vl_X12_96 dX12_termOf_184 o_164 rfl rfl (Nat.le_of_ble_eq_true rfl) ⟨(Nat.le_of_ble_eq_true rfl), (Nat.le_of_ble_eq_true rfl)⟩ rfl rfl (Nat.le_of_ble_eq_true rfl) (Nat.le_of_ble_eq_true rfl) (fun r9 J_184 hq9 => ?_)
            obtain ⟨z_184, rfl, hz_184, rfl, rfl⟩ := hq9
            refine tz_istore (pc := 187) (L2 := [_, _, _, _, _, _, _, _]) dX12_termOf_187 (by decide) rfl ?_
            refine tz_aload_n (pc := 189) dX12_termOf_189 rfl rfl ?_
            refine tz_fR (pc := 190) dX12_termOf_190 fl_X12_13 r_164_1 ?_
            refine tz_aload_n (pc := 193) dX12_termOf_193 rfl rfl ?_
            refine tz_fI (pc := 194) (kz := 15) (v := b) dX12_termOf_194 fl_X12_71 i_164_15 rfl hM2 (fun r_194 => ?_)
            refine tz_iload (pc := 197) dX12_termOf_197 rfl ?_
            refine tz_iadd (pc := 199) (v := b + m) dX12_termOf_199 rfl ?_
            refine tz_iload_n (pc := 200) dX12_termOf_200 rfl rfl ?_
            refine tz_aS (pc := 201) (z := (b + m)) dX12_termOf_201 a_166 rfl (by omega) (by omega) ?_
            refine tz_aload_n (pc := 202) dX12_termOf_202 rfl rfl ?_
            refine tz_fR (pc := 203) dX12_termOf_203 fl_X12_16 r_164_2 ?_
            refine tz_iconst (pc := 206) dX12_termOf_206 ?_
            refine tz_aload_n (pc := 207) dX12_termOf_207 rfl rfl ?_
            refine tz_fI (pc := 208) (kz := 15) (v := b) dX12_termOf_208 fl_X12_71 i_164_15 rfl hM2 (fun r_208 => ?_)
            refine tz_iload (pc := 211) dX12_termOf_211 rfl ?_
            refine tz_iadd (pc := 213) (v := b + m) dX12_termOf_213 rfl ?_
            refine tz_imul (pc := 214) (v := 3 * (b + m)) dX12_termOf_214 rfl ?_
            refine tz_iload (pc := 215) dX12_termOf_215 rfl ?_
            refine tz_if_leT (pc := 217) (tgt := 224) (by decide) dX12_termOf_217 (by decide) (by decide) ?_
            refine tz_iconst (pc := 224) dX12_termOf_224 ?_
            refine tz_aS (pc := 225) (z := (3 * (b + m))) dX12_termOf_225 a_167 rfl (by omega) (by decide) ?_
            refine tz_aload_n (pc := 226) dX12_termOf_226 rfl rfl ?_
            refine tz_fR (pc := 227) dX12_termOf_227 fl_X12_16 r_164_2 ?_
            refine tz_iconst (pc := 230) dX12_termOf_230 ?_
            refine tz_aload_n (pc := 231) dX12_termOf_231 rfl rfl ?_
            refine tz_fI (pc := 232) (kz := 15) (v := b) dX12_termOf_232 fl_X12_71 i_164_15 rfl hM2 (fun r_232 => ?_)
            refine tz_iload (pc := 235) dX12_termOf_235 rfl ?_
            refine tz_iadd (pc := 237) (v := b + m) dX12_termOf_237 rfl ?_
            refine tz_imul (pc := 238) (v := 3 * (b + m)) dX12_termOf_238 rfl ?_
            refine tz_iconst (pc := 239) dX12_termOf_239 ?_
            refine tz_iadd (pc := 240) (v := (3 * (b + m)) + 1) dX12_termOf_240 rfl ?_
            refine tz_iload (pc := 241) dX12_termOf_241 rfl ?_
            refine tz_iconst (pc := 243) dX12_termOf_243 ?_
            refine tz_icmp_leT (pc := 244) (tgt := 251) (by decide) dX12_termOf_244 (by decide) (by decide) (by decide) ?_
            refine tz_iconst (pc := 251) dX12_termOf_251 ?_
            refine tz_aS (pc := 252) (z := ((3 * (b + m)) + 1)) dX12_termOf_252 a_167 rfl (by omega) (by decide) ?_
            refine tz_aload_n (pc := 253) dX12_termOf_253 rfl rfl ?_
            refine tz_fR (pc := 254) dX12_termOf_254 fl_X12_16 r_164_2 ?_
            refine tz_iconst (pc := 257) dX12_termOf_257 ?_
            refine tz_aload_n (pc := 258) dX12_termOf_258 rfl rfl ?_
            refine tz_fI (pc := 259) (kz := 15) (v := b) dX12_termOf_259 fl_X12_71 i_164_15 rfl hM2 (fun r_259 => ?_)
            refine tz_iload (pc := 262) dX12_termOf_262 rfl ?_
            refine tz_iadd (pc := 264) (v := b + m) dX12_termOf_264 rfl ?_
            refine tz_imul (pc := 265) (v := 3 * (b + m)) dX12_termOf_265 rfl ?_
            refine tz_iconst (pc := 266) dX12_termOf_266 ?_
            refine tz_iadd (pc := 267) (v := (3 * (b + m)) + 2) dX12_termOf_267 rfl ?_
            refine tz_iload (pc := 268) dX12_termOf_268 rfl ?_
            refine tz_iconst (pc := 270) dX12_termOf_270 ?_
            refine tz_icmp_leT (pc := 271) (tgt := 279) (by decide) dX12_termOf_271 (by decide) (by decide) (by decide) ?_
            refine tz_iconst (pc := 279) dX12_termOf_279 ?_
            refine tz_aS (pc := 280) (z := ((3 * (b + m)) + 2)) dX12_termOf_280 a_167 rfl (by omega) (by decide) ?_
            refine tz_aload_n (pc := 281) dX12_termOf_281 rfl rfl ?_
            refine tz_fR (pc := 282) dX12_termOf_282 fl_X12_19 r_164_3 ?_
            refine tz_aload_n (pc := 285) dX12_termOf_285 rfl rfl ?_
            refine tz_fI (pc := 286) (kz := 15) (v := b) dX12_termOf_286 fl_X12_71 i_164_15 rfl hM2 (fun r_286 => ?_)
            refine tz_iload (pc := 289) dX12_termOf_289 rfl ?_
            refine tz_iadd (pc := 291) (v := b + m) dX12_termOf_291 rfl ?_
            refine tz_iload (pc := 292) dX12_termOf_292 rfl ?_
            refine tz_aS (pc := 294) (z := (b + m)) dX12_termOf_294 a_168 rfl (by omega) (by decide) ?_
            refine tz_aload_n (pc := 295) dX12_termOf_295 rfl rfl ?_
            refine tz_fR (pc := 296) dX12_termOf_296 fl_X12_9 r_164_0 ?_
            refine tz_aload_n (pc := 299) dX12_termOf_299 rfl rfl ?_
            refine tz_fI (pc := 300) (kz := 16) (v := r) dX12_termOf_300 fl_X12_85 i_164_16 rfl hM3 (fun r_300 => ?_)
            refine tz_iconst (pc := 303) dX12_termOf_303 ?_
            refine tz_iadd (pc := 304) (v := r) dX12_termOf_304 (Int.add_zero _) ?_
            refine tz_dup2 (pc := 305) dX12_termOf_305 rfl rfl ?_
            refine tz_aL (pc := 306) (z := r) (v := m) dX12_termOf_306 a_165 rfl (by omega) hM5 (fun r_306 => ?_)
            refine tz_iconst (pc := 307) dX12_termOf_307 ?_
            refine tz_iadd (pc := 308) (v := m + 1) dX12_termOf_308 rfl ?_
            refine tz_aS (pc := 309) (z := r) dX12_termOf_309 a_165 rfl (by omega) (by omega) ?_
            refine tz_iload (pc := 310) dX12_termOf_310 rfl ?_
            exact tz_iret (pc := 312) (z := m) dX12_termOf_312 rfl (Nat.le_of_ble_eq_true rfl) (Nat.le_of_ble_eq_true rfl) ⟨Nat.le_refl _, Nat.le_add_right _ _⟩ ⟨_, rfl, (by omega), ⟨m + 1, hM.push (A := 0) (x := x) (y := y) (w := w) (by omega) hh (by unfold arh; rw [if_neg (by omega)]; exact hk.2) (by decide) (fun g => absurd g (by decide)) (fun g => absurd g (by decide)) (fun g => absurd g (by decide)) (fun q a c => hn q a (by omega)) (by omega) (by omega) h_4, by omega⟩⟩
          · refine tz_iconst (pc := 166) dX12_termOf_166 ?_
            refine tz_goto (pc := 167) (tgt := 171) dX12_termOf_167 (by decide) ?_
            refine tz_pZ (pc := 171) (kz := 21) dX12_termOf_171 fl_X12_92 i_164_21 rfl rfl (Or.inr rfl) ?_
            refine tz_aload_n (pc := 174) dX12_termOf_174 rfl rfl ?_
            refine tz_fI (pc := 175) (kz := 21) (v := 1) dX12_termOf_175 fl_X12_92 i_164_21 rfl rfl (fun _ => ?_)
            refine tz_if_eqF (pc := 178) (tgt := 183) (by decide) dX12_termOf_178 (by decide) (by decide) ?_
            refine tz_iconst (pc := 181) dX12_termOf_181 ?_
            exact tz_iret (pc := 182) (z := 0) dX12_termOf_182 rfl (Nat.le_of_ble_eq_true rfl) (Nat.le_of_ble_eq_true rfl) ⟨Nat.le_refl _, Nat.le_add_right _ _⟩ ⟨_, rfl, (by decide), ⟨m, (MG.rf hM).full (fun q => absurd q (by decide)), by omega⟩⟩
        · refine tz_aload_n (pc := 42) dX12_termOf_42 rfl rfl ?_
          refine tz_iload (pc := 43) dX12_termOf_43 rfl ?_
          refine tz_iload_n (pc := 45) dX12_termOf_45 rfl rfl ?_
          refine tz_iload (pc := 46) dX12_termOf_46 rfl ?_
          refine tz_iload_n (pc := 48) dX12_termOf_48 rfl rfl ?_
          refine tz_iload_n (pc := 49) dX12_termOf_49 rfl rfl ?_
          refine tz_iload (pc := 50) dX12_termOf_50 rfl ?_
          refine tz_cV (pc := 52) (m_isThat hl n _ _ _ _ _ _ _ (by omega) (by omega) (by decide) (by omega) (by omega) (by omega) b r d s m hM (by omega)) vl_X12_100 dX12_termOf_52 o_164 rfl rfl (Nat.le_of_ble_eq_true rfl) ⟨(Nat.le_of_ble_eq_true rfl), (Nat.le_of_ble_eq_true rfl)⟩ rfl rfl (Nat.le_of_ble_eq_true rfl) (Nat.le_of_ble_eq_true rfl) (fun r9 J_52 hq9 => ?_)
          obtain ⟨zi9, rfl, hz_52, rfl, hi1, hi2⟩ := hq9
          refine tz_if_eq (pc := 55) (tgt := 61) dX12_termOf_55 (by decide) (by omega) (fun h_55 => ?_) (fun h_55 => ?_)
          · refine tz_iinc (pc := 61) (z := t + 1) (L2 := [_, _, _, _, _, _, _, _]) dX12_termOf_61 rfl (by omega) rfl ?_
            refine tz_goto (pc := 64) (tgt := 33) dX12_termOf_64 (by decide) ?_
            exact ih33 (t + 1) (by omega) (by omega) (fun q a c => (Decidable.em (q = t)).elim (fun e => by rw [e]; exact fun e9 => by have := hi2.mpr e9; omega) (fun e => hn q a (by omega)))
          · refine tz_iload (pc := 58) dX12_termOf_58 rfl ?_
            exact tz_iret (pc := 60) (z := t) dX12_termOf_60 rfl (Nat.le_of_ble_eq_true rfl) (Nat.le_of_ble_eq_true rfl) ⟨Nat.le_refl _, Nat.le_add_right _ _⟩ ⟨_, rfl, (by omega), ⟨m, MG.rf hM, by omega⟩⟩
    exact loop33 _ 0 (Nat.lt_succ_self _) (by omega) (fun q a c => by omega)
  · refine tz_iconst (pc := 7) dX12_termOf_7 ?_
    exact tz_iret (pc := 8) (z := 0) dX12_termOf_8 rfl (Nat.le_of_ble_eq_true rfl) (Nat.le_of_ble_eq_true rfl) ⟨Nat.le_refl _, Nat.le_add_right _ _⟩ ⟨_, rfl, (by decide), ⟨m, MG.rf hM, by omega⟩⟩

set_option maxHeartbeats 4000000 in
set_option maxRecDepth 100000 in
theorem m_tu1 {l : Launch} {G : tb_G} (hl : l.stackTraces = false) (n : Nat) (J : zJ) (h : Int) (x : Int) (y : Int) (w : Int) (hr_h : -2147483648 ≤ h ∧ h < 2147483648) (hr_x : -2147483648 ≤ x ∧ x < 2147483648) (hr_y : -2147483648 ≤ y ∧ y < 2147483648) (hr_w : -2147483648 ≤ w ∧ w < 2147483648) (b r d s m : Int) (hM : MS J b r d s m) (hh : -8 ≤ h ∧ h < s) (hk : 0 ≤ h ∧ J 170 (d + h) = 1) (hu : J 164 21 = 0 ∨ 0 < m) (hg : (0 < (1 : Int) → 0 ≤ x ∧ x < m) ∧ (1 < (1 : Int) → 0 ≤ y ∧ y < m) ∧ (2 < (1 : Int) → 0 ≤ w ∧ w < m)) : tz_Ok l G M_X12_termOf 2 0 0 [.ref 164, zi h, zi x, zi y, zi w] n J (zqi (fun z J' => ∃ m', MG [] [] (fun _ => false) J' J b r d s m m' ∧ 0 ≤ z ∧ z < m')) zN := by
  refine tz_Ok.of hl (by decide +kernel) rfl (tb_c1 rfl) (Nat.le_of_ble_eq_true rfl) ?_
  show tz_At l G M_X12_termOf (tb_rm 2 0 0) none (tb_ZM G 0 0 (zQ n 0 (zqi (fun z J' => ∃ m', MG [] [] (fun _ => false) J' J b r d s m m' ∧ 0 ≤ z ∧ z < m'))) (zX n 0 zN)) 0 0 n J 0 [some (.ref 164), some (zi h), some (zi x), some (zi y), some (zi w), none, none, none] []
  obtain ⟨hM1, hM2, hM3, hM4, hM5, hM6⟩ := id hM
  have hT := hM.told
  refine tz_aload_n (pc := 0) dX12_termOf_0 rfl rfl ?_
  refine tz_fI (pc := 1) (kz := 21) (v := (J 164 21)) dX12_termOf_1 fl_X12_92 i_164_21 rfl rfl (fun r_1 => ?_)
  refine tz_if_eq (pc := 4) (tgt := 9) dX12_termOf_4 (by decide) (by omega) (fun h_4 => ?_) (fun h_4 => ?_)
  · refine tz_iload_n (pc := 9) dX12_termOf_9 rfl rfl ?_
    refine tz_if_geT (pc := 10) (tgt := 17) (by omega) dX12_termOf_10 (by decide) (by omega) ?_
    refine tz_aload_n (pc := 17) dX12_termOf_17 rfl rfl ?_
    refine tz_fR (pc := 18) dX12_termOf_18 fl_X12_25 r_164_5 ?_
    refine tz_aload_n (pc := 21) dX12_termOf_21 rfl rfl ?_
    refine tz_fI (pc := 22) (kz := 17) (v := d) dX12_termOf_22 fl_X12_82 i_164_17 rfl hM4 (fun r_22 => ?_)
    refine tz_iload_n (pc := 25) dX12_termOf_25 rfl rfl ?_
    refine tz_iadd (pc := 26) (v := d + h) dX12_termOf_26 rfl ?_
    refine tz_aL (pc := 27) (z := (d + h)) (v := 1) dX12_termOf_27 a_170 rfl (by omega) hk.2 (fun _ => ?_)
    refine tz_istore (pc := 28) (L2 := [_, _, _, _, _, _, _, _]) dX12_termOf_28 (by decide) rfl ?_
    refine tz_iconst (pc := 30) dX12_termOf_30 ?_
    refine tz_istore (pc := 31) (L2 := [_, _, _, _, _, _, _, _]) dX12_termOf_31 (by decide) rfl ?_
    have loop33 : ∀ (f9 : Nat) (t : Int), ((m - t).toNat) < f9 → (0 ≤ t ∧ t ≤ m) → (∀ q, 0 ≤ q → q < t → ¬ (J 166 (b + q) = h ∧ (0 < (1 : Int) → J 167 (3 * (b + q) + 0) = x) ∧ (1 < (1 : Int) → J 167 (3 * (b + q) + 1) = y) ∧ (2 < (1 : Int) → J 167 (3 * (b + q) + 2) = w))) → tz_At l G M_X12_termOf (tb_rm 2 0 0) none (tb_ZM G 0 0 (zQ n 0 (zqi (fun z J' => ∃ m', MG [] [] (fun _ => false) J' J b r d s m m' ∧ 0 ≤ z ∧ z < m'))) (zX n 0 zN)) 0 0 n J 33 [some (.ref 164), some (zi h), some (zi x), some (zi y), some (zi w), some (zi 1), some (zi t), none] [] := by
      intro f9
      induction f9 with
      | zero => intro t hm9; exact absurd hm9 (Nat.not_lt_zero _)
      | succ f9 ih33 =>
        intro t hm33 hq hn
        refine tz_iload (pc := 33) dX12_termOf_33 rfl ?_
        refine tz_aload_n (pc := 35) dX12_termOf_35 rfl rfl ?_
        refine tz_cV (pc := 36) (m_many hl n _ b r d s m hM) vl_X12_96 dX12_termOf_36 o_164 rfl rfl (Nat.le_of_ble_eq_true rfl) ⟨(Nat.le_of_ble_eq_true rfl), (Nat.le_of_ble_eq_true rfl)⟩ rfl rfl (Nat.le_of_ble_eq_true rfl) (Nat.le_of_ble_eq_true rfl) (fun r9 J_36 hq9 => ?_)
        obtain ⟨z_36, rfl, hz_36, rfl, rfl⟩ := hq9
        refine tz_icmp_ge (pc := 39) (tgt := 67) dX12_termOf_39 (by decide) (by omega) (by omega) (fun h_39 => ?_) (fun h_39 => ?_)
        · have hz0 := hM.ar (t := x) (by omega)
          refine tz_iconst (pc := 67) dX12_termOf_67 ?_
          refine tz_istore (pc := 68) (L2 := [_, _, _, _, _, _, _, _]) dX12_termOf_68 (by decide) rfl ?_
          refine tz_iload (pc := 70) dX12_termOf_70 rfl ?_
          refine tz_if_leF (pc := 72) (tgt := 95) (by decide) dX12_termOf_72 (by decide) (by decide) ?_
          refine tz_iload (pc := 75) dX12_termOf_75 rfl ?_
          refine tz_aload_n (pc := 77) dX12_termOf_77 rfl rfl ?_
          refine tz_fR (pc := 78) dX12_termOf_78 fl_X12_19 r_164_3 ?_
          refine tz_aload_n (pc := 81) dX12_termOf_81 rfl rfl ?_
          refine tz_fI (pc := 82) (kz := 15) (v := b) dX12_termOf_82 fl_X12_71 i_164_15 rfl hM2 (fun r_82 => ?_)
          refine tz_iload_n (pc := 85) dX12_termOf_85 rfl rfl ?_
          refine tz_iadd (pc := 86) (v := b + x) dX12_termOf_86 rfl ?_
          refine tz_aL (pc := 87) (z := (b + x)) (v := (J 168 (b + x))) dX12_termOf_87 a_168 rfl (by omega) rfl (fun r_87 => ?_)
          refine tz_iconst (pc := 88) dX12_termOf_88 ?_
          refine tz_iadd (pc := 89) (v := (J 168 (b + x)) + 1) dX12_termOf_89 rfl ?_
          refine tz_cS (pc := 90) (zm_greater hl n _ _ _ (by decide) (by omega)) sl_X12_104 dX12_termOf_90 rfl rfl (Nat.le_of_ble_eq_true rfl) ⟨(Nat.le_of_ble_eq_true rfl), (Nat.le_of_ble_eq_true rfl)⟩ rfl rfl (Nat.le_of_ble_eq_true rfl) (Nat.le_of_ble_eq_true rfl) (fun r9 J_90 hq9 => ?_)
          obtain ⟨z_90, rfl, hz_90, rfl, hg_90⟩ := hq9
          have gz_90 : (1 ≤ z_90 ∧ ((J 168 (b + x)) + 1) ≤ z_90) ∧ (z_90 = 1 ∨ z_90 = ((J 168 (b + x)) + 1)) := by rw [← hg_90]; split <;> omega
          refine tz_istore (pc := 93) (L2 := [_, _, _, _, _, _, _, _]) dX12_termOf_93 (by decide) rfl ?_
          refine tz_iload (pc := 95) dX12_termOf_95 rfl ?_
          refine tz_iconst (pc := 97) dX12_termOf_97 ?_
          refine tz_icmp_leT (pc := 98) (tgt := 121) (by decide) dX12_termOf_98 (by decide) (by decide) (by decide) ?_
          refine tz_iload (pc := 121) dX12_termOf_121 rfl ?_
          refine tz_iconst (pc := 123) dX12_termOf_123 ?_
          refine tz_icmp_leT (pc := 124) (tgt := 148) (by decide) dX12_termOf_124 (by decide) (by decide) (by decide) ?_
          refine tz_aload_n (pc := 148) dX12_termOf_148 rfl rfl ?_
          refine tz_iload (pc := 149) dX12_termOf_149 rfl ?_
          refine tz_bipush (pc := 151) dX12_termOf_151 (by decide) ?_
          refine tz_icmp_gt (pc := 153) (tgt := 166) dX12_termOf_153 (by decide) (by omega) (by decide) (fun h_153 => ?_) (fun h_153 => ?_)
          · refine tz_iconst (pc := 166) dX12_termOf_166 ?_
            refine tz_goto (pc := 167) (tgt := 171) dX12_termOf_167 (by decide) ?_
            refine tz_pZ (pc := 171) (kz := 21) dX12_termOf_171 fl_X12_92 i_164_21 rfl rfl (Or.inr rfl) ?_
            refine tz_aload_n (pc := 174) dX12_termOf_174 rfl rfl ?_
            refine tz_fI (pc := 175) (kz := 21) (v := 1) dX12_termOf_175 fl_X12_92 i_164_21 rfl rfl (fun _ => ?_)
            refine tz_if_eqF (pc := 178) (tgt := 183) (by decide) dX12_termOf_178 (by decide) (by decide) ?_
            refine tz_iconst (pc := 181) dX12_termOf_181 ?_
            exact tz_iret (pc := 182) (z := 0) dX12_termOf_182 rfl (Nat.le_of_ble_eq_true rfl) (Nat.le_of_ble_eq_true rfl) ⟨Nat.le_refl _, Nat.le_add_right _ _⟩ ⟨_, rfl, (by decide), ⟨m, (MG.rf hM).full (fun q => absurd q (by decide)), by omega⟩⟩
          · refine tz_aload_n (pc := 156) dX12_termOf_156 rfl rfl ?_
            refine tz_cV (pc := 157) (m_many hl n _ b r d s m hM) vl_X12_96 dX12_termOf_157 o_164 rfl rfl (Nat.le_of_ble_eq_true rfl) ⟨(Nat.le_of_ble_eq_true rfl), (Nat.le_of_ble_eq_true rfl)⟩ rfl rfl (Nat.le_of_ble_eq_true rfl) (Nat.le_of_ble_eq_true rfl) (fun r9 J_157 hq9 => ?_)
            obtain ⟨z_157, rfl, hz_157, rfl, rfl⟩ := hq9
            refine tz_sipush (pc := 160) dX12_termOf_160 (by decide) ?_
            refine tz_icmp_ne (pc := 163) (tgt := 170) dX12_termOf_163 (by decide) (by omega) (by decide) (fun h_163 => ?_) (fun h_163 => ?_)
            · refine tz_iconst (pc := 170) dX12_termOf_170 ?_
              refine tz_pZ (pc := 171) (kz := 21) dX12_termOf_171 fl_X12_92 i_164_21 rfl rfl (Or.inl rfl) ?_
              refine tz_aload_n (pc := 174) dX12_termOf_174 rfl rfl ?_
              refine tz_fI (pc := 175) (kz := 21) (v := 0) dX12_termOf_175 fl_X12_92 i_164_21 rfl rfl (fun _ => ?_)
              refine tz_if_eqT (pc := 178) (tgt := 183) (by decide) dX12_termOf_178 (by decide) (by decide) ?_
              refine tz_aload_n (pc := 183) dX12_termOf_183 rfl rfl ?_
              refine tz_cV (pc := 184) (m_many hl n _ b r d s m (hM.of ⟨zup_ne (by decide), zup_ne (by decide), zup_ne (by decide)⟩ rfl rfl rfl rfl rfl)) vl_X12_96 dX12_termOf_184 o_164 rfl rfl (Nat.le_of_ble_eq_true rfl) ⟨(Nat.le_of_ble_eq_true rfl), (Nat.le_of_ble_eq_true rfl)⟩ rfl rfl (Nat.le_of_ble_eq_true rfl) (Nat.le_of_ble_eq_true rfl) (fun r9 J_184 hq9 => ?_)
              obtain ⟨z_184, rfl, hz_184, rfl, rfl⟩ := hq9
              refine tz_istore (pc := 187) (L2 := [_, _, _, _, _, _, _, _]) dX12_termOf_187 (by decide) rfl ?_
              refine tz_aload_n (pc := 189) dX12_termOf_189 rfl rfl ?_
              refine tz_fR (pc := 190) dX12_termOf_190 fl_X12_13 r_164_1 ?_
              refine tz_aload_n (pc := 193) dX12_termOf_193 rfl rfl ?_
              refine tz_fI (pc := 194) (kz := 15) (v := b) dX12_termOf_194 fl_X12_71 i_164_15 rfl hM2 (fun r_194 => ?_)
              refine tz_iload (pc := 197) dX12_termOf_197 rfl ?_
              refine tz_iadd (pc := 199) (v := b + m) dX12_termOf_199 rfl ?_
              refine tz_iload_n (pc := 200) dX12_termOf_200 rfl rfl ?_
              refine tz_aS (pc := 201) (z := (b + m)) dX12_termOf_201 a_166 rfl (by omega) (by omega) ?_
              refine tz_aload_n (pc := 202) dX12_termOf_202 rfl rfl ?_
              refine tz_fR (pc := 203) dX12_termOf_203 fl_X12_16 r_164_2 ?_
              refine tz_iconst (pc := 206) dX12_termOf_206 ?_
              refine tz_aload_n (pc := 207) dX12_termOf_207 rfl rfl ?_
              refine tz_fI (pc := 208) (kz := 15) (v := b) dX12_termOf_208 fl_X12_71 i_164_15 rfl hM2 (fun r_208 => ?_)
              refine tz_iload (pc := 211) dX12_termOf_211 rfl ?_
              refine tz_iadd (pc := 213) (v := b + m) dX12_termOf_213 rfl ?_
              refine tz_imul (pc := 214) (v := 3 * (b + m)) dX12_termOf_214 rfl ?_
              refine tz_iload (pc := 215) dX12_termOf_215 rfl ?_
              refine tz_if_leF (pc := 217) (tgt := 224) (by decide) dX12_termOf_217 (by decide) (by decide) ?_
              refine tz_iload_n (pc := 220) dX12_termOf_220 rfl rfl ?_
              refine tz_goto (pc := 221) (tgt := 225) dX12_termOf_221 (by decide) ?_
              refine tz_aS (pc := 225) (z := (3 * (b + m))) dX12_termOf_225 a_167 rfl (by omega) (by omega) ?_
              refine tz_aload_n (pc := 226) dX12_termOf_226 rfl rfl ?_
              refine tz_fR (pc := 227) dX12_termOf_227 fl_X12_16 r_164_2 ?_
              refine tz_iconst (pc := 230) dX12_termOf_230 ?_
              refine tz_aload_n (pc := 231) dX12_termOf_231 rfl rfl ?_
              refine tz_fI (pc := 232) (kz := 15) (v := b) dX12_termOf_232 fl_X12_71 i_164_15 rfl hM2 (fun r_232 => ?_)
              refine tz_iload (pc := 235) dX12_termOf_235 rfl ?_
              refine tz_iadd (pc := 237) (v := b + m) dX12_termOf_237 rfl ?_
              refine tz_imul (pc := 238) (v := 3 * (b + m)) dX12_termOf_238 rfl ?_
              refine tz_iconst (pc := 239) dX12_termOf_239 ?_
              refine tz_iadd (pc := 240) (v := (3 * (b + m)) + 1) dX12_termOf_240 rfl ?_
              refine tz_iload (pc := 241) dX12_termOf_241 rfl ?_
              refine tz_iconst (pc := 243) dX12_termOf_243 ?_
              refine tz_icmp_leT (pc := 244) (tgt := 251) (by decide) dX12_termOf_244 (by decide) (by decide) (by decide) ?_
              refine tz_iconst (pc := 251) dX12_termOf_251 ?_
              refine tz_aS (pc := 252) (z := ((3 * (b + m)) + 1)) dX12_termOf_252 a_167 rfl (by omega) (by decide) ?_
              refine tz_aload_n (pc := 253) dX12_termOf_253 rfl rfl ?_
              refine tz_fR (pc := 254) dX12_termOf_254 fl_X12_16 r_164_2 ?_
              refine tz_iconst (pc := 257) dX12_termOf_257 ?_
              refine tz_aload_n (pc := 258) dX12_termOf_258 rfl rfl ?_
              refine tz_fI (pc := 259) (kz := 15) (v := b) dX12_termOf_259 fl_X12_71 i_164_15 rfl hM2 (fun r_259 => ?_)
              refine tz_iload (pc := 262) dX12_termOf_262 rfl ?_
              refine tz_iadd (pc := 264) (v := b + m) dX12_termOf_264 rfl ?_
              refine tz_imul (pc := 265) (v := 3 * (b + m)) dX12_termOf_265 rfl ?_
              refine tz_iconst (pc := 266) dX12_termOf_266 ?_
              refine tz_iadd (pc := 267) (v := (3 * (b + m)) + 2) dX12_termOf_267 rfl ?_
              refine tz_iload (pc := 268) dX12_termOf_268 rfl ?_
              refine tz_iconst (pc := 270) dX12_termOf_270 ?_
              refine tz_icmp_leT (pc := 271) (tgt := 279) (by decide) dX12_termOf_271 (by decide) (by decide) (by decide) ?_
              refine tz_iconst (pc := 279) dX12_termOf_279 ?_
              refine tz_aS (pc := 280) (z := ((3 * (b + m)) + 2)) dX12_termOf_280 a_167 rfl (by omega) (by decide) ?_
              refine tz_aload_n (pc := 281) dX12_termOf_281 rfl rfl ?_
              refine tz_fR (pc := 282) dX12_termOf_282 fl_X12_19 r_164_3 ?_
              refine tz_aload_n (pc := 285) dX12_termOf_285 rfl rfl ?_
              refine tz_fI (pc := 286) (kz := 15) (v := b) dX12_termOf_286 fl_X12_71 i_164_15 rfl hM2 (fun r_286 => ?_)
              refine tz_iload (pc := 289) dX12_termOf_289 rfl ?_
              refine tz_iadd (pc := 291) (v := b + m) dX12_termOf_291 rfl ?_
              refine tz_iload (pc := 292) dX12_termOf_292 rfl ?_
              refine tz_aS (pc := 294) (z := (b + m)) dX12_termOf_294 a_168 rfl (by omega) (by omega) ?_
              refine tz_aload_n (pc := 295) dX12_termOf_295 rfl rfl ?_
              refine tz_fR (pc := 296) dX12_termOf_296 fl_X12_9 r_164_0 ?_
              refine tz_aload_n (pc := 299) dX12_termOf_299 rfl rfl ?_
              refine tz_fI (pc := 300) (kz := 16) (v := r) dX12_termOf_300 fl_X12_85 i_164_16 rfl hM3 (fun r_300 => ?_)
              refine tz_iconst (pc := 303) dX12_termOf_303 ?_
              refine tz_iadd (pc := 304) (v := r) dX12_termOf_304 (Int.add_zero _) ?_
              refine tz_dup2 (pc := 305) dX12_termOf_305 rfl rfl ?_
              refine tz_aL (pc := 306) (z := r) (v := m) dX12_termOf_306 a_165 rfl (by omega) hM5 (fun r_306 => ?_)
              refine tz_iconst (pc := 307) dX12_termOf_307 ?_
              refine tz_iadd (pc := 308) (v := m + 1) dX12_termOf_308 rfl ?_
              refine tz_aS (pc := 309) (z := r) dX12_termOf_309 a_165 rfl (by omega) (by omega) ?_
              refine tz_iload (pc := 310) dX12_termOf_310 rfl ?_
              exact tz_iret (pc := 312) (z := m) dX12_termOf_312 rfl (Nat.le_of_ble_eq_true rfl) (Nat.le_of_ble_eq_true rfl) ⟨Nat.le_refl _, Nat.le_add_right _ _⟩ ⟨_, rfl, (by omega), ⟨m + 1, hM.push (A := 1) (x := x) (y := y) (w := w) (by omega) hh (by unfold arh; rw [if_neg (by omega)]; exact hk.2) (by decide) (fun _ => ⟨rfl, by omega, by omega⟩) (fun g => absurd g (by decide)) (fun g => absurd g (by decide)) (fun q a c => hn q a (by omega)) (by omega) (by omega) h_4, by omega⟩⟩
            · refine tz_iconst (pc := 166) dX12_termOf_166 ?_
              refine tz_goto (pc := 167) (tgt := 171) dX12_termOf_167 (by decide) ?_
              refine tz_pZ (pc := 171) (kz := 21) dX12_termOf_171 fl_X12_92 i_164_21 rfl rfl (Or.inr rfl) ?_
              refine tz_aload_n (pc := 174) dX12_termOf_174 rfl rfl ?_
              refine tz_fI (pc := 175) (kz := 21) (v := 1) dX12_termOf_175 fl_X12_92 i_164_21 rfl rfl (fun _ => ?_)
              refine tz_if_eqF (pc := 178) (tgt := 183) (by decide) dX12_termOf_178 (by decide) (by decide) ?_
              refine tz_iconst (pc := 181) dX12_termOf_181 ?_
              exact tz_iret (pc := 182) (z := 0) dX12_termOf_182 rfl (Nat.le_of_ble_eq_true rfl) (Nat.le_of_ble_eq_true rfl) ⟨Nat.le_refl _, Nat.le_add_right _ _⟩ ⟨_, rfl, (by decide), ⟨m, (MG.rf hM).full (fun q => absurd q (by decide)), by omega⟩⟩
        · refine tz_aload_n (pc := 42) dX12_termOf_42 rfl rfl ?_
          refine tz_iload (pc := 43) dX12_termOf_43 rfl ?_
          refine tz_iload_n (pc := 45) dX12_termOf_45 rfl rfl ?_
          refine tz_iload (pc := 46) dX12_termOf_46 rfl ?_
          refine tz_iload_n (pc := 48) dX12_termOf_48 rfl rfl ?_
          refine tz_iload_n (pc := 49) dX12_termOf_49 rfl rfl ?_
          refine tz_iload (pc := 50) dX12_termOf_50 rfl ?_
          refine tz_cV (pc := 52) (m_isThat hl n _ _ _ _ _ _ _ (by omega) (by omega) (by decide) (by omega) (by omega) (by omega) b r d s m hM (by omega)) vl_X12_100 dX12_termOf_52 o_164 rfl rfl (Nat.le_of_ble_eq_true rfl) ⟨(Nat.le_of_ble_eq_true rfl), (Nat.le_of_ble_eq_true rfl)⟩ rfl rfl (Nat.le_of_ble_eq_true rfl) (Nat.le_of_ble_eq_true rfl) (fun r9 J_52 hq9 => ?_)
          obtain ⟨zi9, rfl, hz_52, rfl, hi1, hi2⟩ := hq9
          refine tz_if_eq (pc := 55) (tgt := 61) dX12_termOf_55 (by decide) (by omega) (fun h_55 => ?_) (fun h_55 => ?_)
          · refine tz_iinc (pc := 61) (z := t + 1) (L2 := [_, _, _, _, _, _, _, _]) dX12_termOf_61 rfl (by omega) rfl ?_
            refine tz_goto (pc := 64) (tgt := 33) dX12_termOf_64 (by decide) ?_
            exact ih33 (t + 1) (by omega) (by omega) (fun q a c => (Decidable.em (q = t)).elim (fun e => by rw [e]; exact fun e9 => by have := hi2.mpr e9; omega) (fun e => hn q a (by omega)))
          · refine tz_iload (pc := 58) dX12_termOf_58 rfl ?_
            exact tz_iret (pc := 60) (z := t) dX12_termOf_60 rfl (Nat.le_of_ble_eq_true rfl) (Nat.le_of_ble_eq_true rfl) ⟨Nat.le_refl _, Nat.le_add_right _ _⟩ ⟨_, rfl, (by omega), ⟨m, MG.rf hM, by omega⟩⟩
    exact loop33 _ 0 (Nat.lt_succ_self _) (by omega) (fun q a c => by omega)
  · refine tz_iconst (pc := 7) dX12_termOf_7 ?_
    exact tz_iret (pc := 8) (z := 0) dX12_termOf_8 rfl (Nat.le_of_ble_eq_true rfl) (Nat.le_of_ble_eq_true rfl) ⟨Nat.le_refl _, Nat.le_add_right _ _⟩ ⟨_, rfl, (by decide), ⟨m, MG.rf hM, by omega⟩⟩

set_option maxHeartbeats 4000000 in
set_option maxRecDepth 100000 in
theorem m_tu2 {l : Launch} {G : tb_G} (hl : l.stackTraces = false) (n : Nat) (J : zJ) (h : Int) (x : Int) (y : Int) (w : Int) (hr_h : -2147483648 ≤ h ∧ h < 2147483648) (hr_x : -2147483648 ≤ x ∧ x < 2147483648) (hr_y : -2147483648 ≤ y ∧ y < 2147483648) (hr_w : -2147483648 ≤ w ∧ w < 2147483648) (b r d s m : Int) (hM : MS J b r d s m) (hh : -8 ≤ h ∧ h < s) (hk : 0 ≤ h ∧ J 170 (d + h) = 2) (hu : J 164 21 = 0 ∨ 0 < m) (hg : (0 < (2 : Int) → 0 ≤ x ∧ x < m) ∧ (1 < (2 : Int) → 0 ≤ y ∧ y < m) ∧ (2 < (2 : Int) → 0 ≤ w ∧ w < m)) : tz_Ok l G M_X12_termOf 2 0 0 [.ref 164, zi h, zi x, zi y, zi w] n J (zqi (fun z J' => ∃ m', MG [] [] (fun _ => false) J' J b r d s m m' ∧ 0 ≤ z ∧ z < m')) zN := by
  refine tz_Ok.of hl (by decide +kernel) rfl (tb_c1 rfl) (Nat.le_of_ble_eq_true rfl) ?_
  show tz_At l G M_X12_termOf (tb_rm 2 0 0) none (tb_ZM G 0 0 (zQ n 0 (zqi (fun z J' => ∃ m', MG [] [] (fun _ => false) J' J b r d s m m' ∧ 0 ≤ z ∧ z < m'))) (zX n 0 zN)) 0 0 n J 0 [some (.ref 164), some (zi h), some (zi x), some (zi y), some (zi w), none, none, none] []
  obtain ⟨hM1, hM2, hM3, hM4, hM5, hM6⟩ := id hM
  have hT := hM.told
  refine tz_aload_n (pc := 0) dX12_termOf_0 rfl rfl ?_
  refine tz_fI (pc := 1) (kz := 21) (v := (J 164 21)) dX12_termOf_1 fl_X12_92 i_164_21 rfl rfl (fun r_1 => ?_)
  refine tz_if_eq (pc := 4) (tgt := 9) dX12_termOf_4 (by decide) (by omega) (fun h_4 => ?_) (fun h_4 => ?_)
  · refine tz_iload_n (pc := 9) dX12_termOf_9 rfl rfl ?_
    refine tz_if_geT (pc := 10) (tgt := 17) (by omega) dX12_termOf_10 (by decide) (by omega) ?_
    refine tz_aload_n (pc := 17) dX12_termOf_17 rfl rfl ?_
    refine tz_fR (pc := 18) dX12_termOf_18 fl_X12_25 r_164_5 ?_
    refine tz_aload_n (pc := 21) dX12_termOf_21 rfl rfl ?_
    refine tz_fI (pc := 22) (kz := 17) (v := d) dX12_termOf_22 fl_X12_82 i_164_17 rfl hM4 (fun r_22 => ?_)
    refine tz_iload_n (pc := 25) dX12_termOf_25 rfl rfl ?_
    refine tz_iadd (pc := 26) (v := d + h) dX12_termOf_26 rfl ?_
    refine tz_aL (pc := 27) (z := (d + h)) (v := 2) dX12_termOf_27 a_170 rfl (by omega) hk.2 (fun _ => ?_)
    refine tz_istore (pc := 28) (L2 := [_, _, _, _, _, _, _, _]) dX12_termOf_28 (by decide) rfl ?_
    refine tz_iconst (pc := 30) dX12_termOf_30 ?_
    refine tz_istore (pc := 31) (L2 := [_, _, _, _, _, _, _, _]) dX12_termOf_31 (by decide) rfl ?_
    have loop33 : ∀ (f9 : Nat) (t : Int), ((m - t).toNat) < f9 → (0 ≤ t ∧ t ≤ m) → (∀ q, 0 ≤ q → q < t → ¬ (J 166 (b + q) = h ∧ (0 < (2 : Int) → J 167 (3 * (b + q) + 0) = x) ∧ (1 < (2 : Int) → J 167 (3 * (b + q) + 1) = y) ∧ (2 < (2 : Int) → J 167 (3 * (b + q) + 2) = w))) → tz_At l G M_X12_termOf (tb_rm 2 0 0) none (tb_ZM G 0 0 (zQ n 0 (zqi (fun z J' => ∃ m', MG [] [] (fun _ => false) J' J b r d s m m' ∧ 0 ≤ z ∧ z < m'))) (zX n 0 zN)) 0 0 n J 33 [some (.ref 164), some (zi h), some (zi x), some (zi y), some (zi w), some (zi 2), some (zi t), none] [] := by
      intro f9
      induction f9 with
      | zero => intro t hm9; exact absurd hm9 (Nat.not_lt_zero _)
      | succ f9 ih33 =>
        intro t hm33 hq hn
        refine tz_iload (pc := 33) dX12_termOf_33 rfl ?_
        refine tz_aload_n (pc := 35) dX12_termOf_35 rfl rfl ?_
        refine tz_cV (pc := 36) (m_many hl n _ b r d s m hM) vl_X12_96 dX12_termOf_36 o_164 rfl rfl (Nat.le_of_ble_eq_true rfl) ⟨(Nat.le_of_ble_eq_true rfl), (Nat.le_of_ble_eq_true rfl)⟩ rfl rfl (Nat.le_of_ble_eq_true rfl) (Nat.le_of_ble_eq_true rfl) (fun r9 J_36 hq9 => ?_)
        obtain ⟨z_36, rfl, hz_36, rfl, rfl⟩ := hq9
        refine tz_icmp_ge (pc := 39) (tgt := 67) dX12_termOf_39 (by decide) (by omega) (by omega) (fun h_39 => ?_) (fun h_39 => ?_)
        · have hz0 := hM.ar (t := x) (by omega)
          have hz1 := hM.ar (t := y) (by omega)
          refine tz_iconst (pc := 67) dX12_termOf_67 ?_
          refine tz_istore (pc := 68) (L2 := [_, _, _, _, _, _, _, _]) dX12_termOf_68 (by decide) rfl ?_
          refine tz_iload (pc := 70) dX12_termOf_70 rfl ?_
          refine tz_if_leF (pc := 72) (tgt := 95) (by decide) dX12_termOf_72 (by decide) (by decide) ?_
          refine tz_iload (pc := 75) dX12_termOf_75 rfl ?_
          refine tz_aload_n (pc := 77) dX12_termOf_77 rfl rfl ?_
          refine tz_fR (pc := 78) dX12_termOf_78 fl_X12_19 r_164_3 ?_
          refine tz_aload_n (pc := 81) dX12_termOf_81 rfl rfl ?_
          refine tz_fI (pc := 82) (kz := 15) (v := b) dX12_termOf_82 fl_X12_71 i_164_15 rfl hM2 (fun r_82 => ?_)
          refine tz_iload_n (pc := 85) dX12_termOf_85 rfl rfl ?_
          refine tz_iadd (pc := 86) (v := b + x) dX12_termOf_86 rfl ?_
          refine tz_aL (pc := 87) (z := (b + x)) (v := (J 168 (b + x))) dX12_termOf_87 a_168 rfl (by omega) rfl (fun r_87 => ?_)
          refine tz_iconst (pc := 88) dX12_termOf_88 ?_
          refine tz_iadd (pc := 89) (v := (J 168 (b + x)) + 1) dX12_termOf_89 rfl ?_
          refine tz_cS (pc := 90) (zm_greater hl n _ _ _ (by decide) (by omega)) sl_X12_104 dX12_termOf_90 rfl rfl (Nat.le_of_ble_eq_true rfl) ⟨(Nat.le_of_ble_eq_true rfl), (Nat.le_of_ble_eq_true rfl)⟩ rfl rfl (Nat.le_of_ble_eq_true rfl) (Nat.le_of_ble_eq_true rfl) (fun r9 J_90 hq9 => ?_)
          obtain ⟨z_90, rfl, hz_90, rfl, hg_90⟩ := hq9
          have gz_90 : (1 ≤ z_90 ∧ ((J 168 (b + x)) + 1) ≤ z_90) ∧ (z_90 = 1 ∨ z_90 = ((J 168 (b + x)) + 1)) := by rw [← hg_90]; split <;> omega
          refine tz_istore (pc := 93) (L2 := [_, _, _, _, _, _, _, _]) dX12_termOf_93 (by decide) rfl ?_
          refine tz_iload (pc := 95) dX12_termOf_95 rfl ?_
          refine tz_iconst (pc := 97) dX12_termOf_97 ?_
          refine tz_icmp_leF (pc := 98) (tgt := 121) (by decide) dX12_termOf_98 (by decide) (by decide) (by decide) ?_
          refine tz_iload (pc := 101) dX12_termOf_101 rfl ?_
          refine tz_aload_n (pc := 103) dX12_termOf_103 rfl rfl ?_
          refine tz_fR (pc := 104) dX12_termOf_104 fl_X12_19 r_164_3 ?_
          refine tz_aload_n (pc := 107) dX12_termOf_107 rfl rfl ?_
          refine tz_fI (pc := 108) (kz := 15) (v := b) dX12_termOf_108 fl_X12_71 i_164_15 rfl hM2 (fun r_108 => ?_)
          refine tz_iload_n (pc := 111) dX12_termOf_111 rfl rfl ?_
          refine tz_iadd (pc := 112) (v := b + y) dX12_termOf_112 rfl ?_
          refine tz_aL (pc := 113) (z := (b + y)) (v := (J 168 (b + y))) dX12_termOf_113 a_168 rfl (by omega) rfl (fun r_113 => ?_)
          refine tz_iconst (pc := 114) dX12_termOf_114 ?_
          refine tz_iadd (pc := 115) (v := (J 168 (b + y)) + 1) dX12_termOf_115 rfl ?_
          refine tz_cS (pc := 116) (zm_greater hl n _ _ _ (by omega) (by omega)) sl_X12_104 dX12_termOf_116 rfl rfl (Nat.le_of_ble_eq_true rfl) ⟨(Nat.le_of_ble_eq_true rfl), (Nat.le_of_ble_eq_true rfl)⟩ rfl rfl (Nat.le_of_ble_eq_true rfl) (Nat.le_of_ble_eq_true rfl) (fun r9 J_116 hq9 => ?_)
          obtain ⟨z_116, rfl, hz_116, rfl, hg_116⟩ := hq9
          have gz_116 : (z_90 ≤ z_116 ∧ ((J 168 (b + y)) + 1) ≤ z_116) ∧ (z_116 = z_90 ∨ z_116 = ((J 168 (b + y)) + 1)) := by rw [← hg_116]; split <;> omega
          refine tz_istore (pc := 119) (L2 := [_, _, _, _, _, _, _, _]) dX12_termOf_119 (by decide) rfl ?_
          refine tz_iload (pc := 121) dX12_termOf_121 rfl ?_
          refine tz_iconst (pc := 123) dX12_termOf_123 ?_
          refine tz_icmp_leT (pc := 124) (tgt := 148) (by decide) dX12_termOf_124 (by decide) (by decide) (by decide) ?_
          refine tz_aload_n (pc := 148) dX12_termOf_148 rfl rfl ?_
          refine tz_iload (pc := 149) dX12_termOf_149 rfl ?_
          refine tz_bipush (pc := 151) dX12_termOf_151 (by decide) ?_
          refine tz_icmp_gt (pc := 153) (tgt := 166) dX12_termOf_153 (by decide) (by omega) (by decide) (fun h_153 => ?_) (fun h_153 => ?_)
          · refine tz_iconst (pc := 166) dX12_termOf_166 ?_
            refine tz_goto (pc := 167) (tgt := 171) dX12_termOf_167 (by decide) ?_
            refine tz_pZ (pc := 171) (kz := 21) dX12_termOf_171 fl_X12_92 i_164_21 rfl rfl (Or.inr rfl) ?_
            refine tz_aload_n (pc := 174) dX12_termOf_174 rfl rfl ?_
            refine tz_fI (pc := 175) (kz := 21) (v := 1) dX12_termOf_175 fl_X12_92 i_164_21 rfl rfl (fun _ => ?_)
            refine tz_if_eqF (pc := 178) (tgt := 183) (by decide) dX12_termOf_178 (by decide) (by decide) ?_
            refine tz_iconst (pc := 181) dX12_termOf_181 ?_
            exact tz_iret (pc := 182) (z := 0) dX12_termOf_182 rfl (Nat.le_of_ble_eq_true rfl) (Nat.le_of_ble_eq_true rfl) ⟨Nat.le_refl _, Nat.le_add_right _ _⟩ ⟨_, rfl, (by decide), ⟨m, (MG.rf hM).full (fun q => absurd q (by decide)), by omega⟩⟩
          · refine tz_aload_n (pc := 156) dX12_termOf_156 rfl rfl ?_
            refine tz_cV (pc := 157) (m_many hl n _ b r d s m hM) vl_X12_96 dX12_termOf_157 o_164 rfl rfl (Nat.le_of_ble_eq_true rfl) ⟨(Nat.le_of_ble_eq_true rfl), (Nat.le_of_ble_eq_true rfl)⟩ rfl rfl (Nat.le_of_ble_eq_true rfl) (Nat.le_of_ble_eq_true rfl) (fun r9 J_157 hq9 => ?_)
            obtain ⟨z_157, rfl, hz_157, rfl, rfl⟩ := hq9
            refine tz_sipush (pc := 160) dX12_termOf_160 (by decide) ?_
            refine tz_icmp_ne (pc := 163) (tgt := 170) dX12_termOf_163 (by decide) (by omega) (by decide) (fun h_163 => ?_) (fun h_163 => ?_)
            · refine tz_iconst (pc := 170) dX12_termOf_170 ?_
              refine tz_pZ (pc := 171) (kz := 21) dX12_termOf_171 fl_X12_92 i_164_21 rfl rfl (Or.inl rfl) ?_
              refine tz_aload_n (pc := 174) dX12_termOf_174 rfl rfl ?_
              refine tz_fI (pc := 175) (kz := 21) (v := 0) dX12_termOf_175 fl_X12_92 i_164_21 rfl rfl (fun _ => ?_)
              refine tz_if_eqT (pc := 178) (tgt := 183) (by decide) dX12_termOf_178 (by decide) (by decide) ?_
              refine tz_aload_n (pc := 183) dX12_termOf_183 rfl rfl ?_
              refine tz_cV (pc := 184) (m_many hl n _ b r d s m (hM.of ⟨zup_ne (by decide), zup_ne (by decide), zup_ne (by decide)⟩ rfl rfl rfl rfl rfl)) vl_X12_96 dX12_termOf_184 o_164 rfl rfl (Nat.le_of_ble_eq_true rfl) ⟨(Nat.le_of_ble_eq_true rfl), (Nat.le_of_ble_eq_true rfl)⟩ rfl rfl (Nat.le_of_ble_eq_true rfl) (Nat.le_of_ble_eq_true rfl) (fun r9 J_184 hq9 => ?_)
              obtain ⟨z_184, rfl, hz_184, rfl, rfl⟩ := hq9
              refine tz_istore (pc := 187) (L2 := [_, _, _, _, _, _, _, _]) dX12_termOf_187 (by decide) rfl ?_
              refine tz_aload_n (pc := 189) dX12_termOf_189 rfl rfl ?_
              refine tz_fR (pc := 190) dX12_termOf_190 fl_X12_13 r_164_1 ?_
              refine tz_aload_n (pc := 193) dX12_termOf_193 rfl rfl ?_
              refine tz_fI (pc := 194) (kz := 15) (v := b) dX12_termOf_194 fl_X12_71 i_164_15 rfl hM2 (fun r_194 => ?_)
              refine tz_iload (pc := 197) dX12_termOf_197 rfl ?_
              refine tz_iadd (pc := 199) (v := b + m) dX12_termOf_199 rfl ?_
              refine tz_iload_n (pc := 200) dX12_termOf_200 rfl rfl ?_
              refine tz_aS (pc := 201) (z := (b + m)) dX12_termOf_201 a_166 rfl (by omega) (by omega) ?_
              refine tz_aload_n (pc := 202) dX12_termOf_202 rfl rfl ?_
              refine tz_fR (pc := 203) dX12_termOf_203 fl_X12_16 r_164_2 ?_
              refine tz_iconst (pc := 206) dX12_termOf_206 ?_
              refine tz_aload_n (pc := 207) dX12_termOf_207 rfl rfl ?_
              refine tz_fI (pc := 208) (kz := 15) (v := b) dX12_termOf_208 fl_X12_71 i_164_15 rfl hM2 (fun r_208 => ?_)
              refine tz_iload (pc := 211) dX12_termOf_211 rfl ?_
              refine tz_iadd (pc := 213) (v := b + m) dX12_termOf_213 rfl ?_
              refine tz_imul (pc := 214) (v := 3 * (b + m)) dX12_termOf_214 rfl ?_
              refine tz_iload (pc := 215) dX12_termOf_215 rfl ?_
              refine tz_if_leF (pc := 217) (tgt := 224) (by decide) dX12_termOf_217 (by decide) (by decide) ?_
              refine tz_iload_n (pc := 220) dX12_termOf_220 rfl rfl ?_
              refine tz_goto (pc := 221) (tgt := 225) dX12_termOf_221 (by decide) ?_
              refine tz_aS (pc := 225) (z := (3 * (b + m))) dX12_termOf_225 a_167 rfl (by omega) (by omega) ?_
              refine tz_aload_n (pc := 226) dX12_termOf_226 rfl rfl ?_
              refine tz_fR (pc := 227) dX12_termOf_227 fl_X12_16 r_164_2 ?_
              refine tz_iconst (pc := 230) dX12_termOf_230 ?_
              refine tz_aload_n (pc := 231) dX12_termOf_231 rfl rfl ?_
              refine tz_fI (pc := 232) (kz := 15) (v := b) dX12_termOf_232 fl_X12_71 i_164_15 rfl hM2 (fun r_232 => ?_)
              refine tz_iload (pc := 235) dX12_termOf_235 rfl ?_
              refine tz_iadd (pc := 237) (v := b + m) dX12_termOf_237 rfl ?_
              refine tz_imul (pc := 238) (v := 3 * (b + m)) dX12_termOf_238 rfl ?_
              refine tz_iconst (pc := 239) dX12_termOf_239 ?_
              refine tz_iadd (pc := 240) (v := (3 * (b + m)) + 1) dX12_termOf_240 rfl ?_
              refine tz_iload (pc := 241) dX12_termOf_241 rfl ?_
              refine tz_iconst (pc := 243) dX12_termOf_243 ?_
              refine tz_icmp_leF (pc := 244) (tgt := 251) (by decide) dX12_termOf_244 (by decide) (by decide) (by decide) ?_
              refine tz_iload_n (pc := 247) dX12_termOf_247 rfl rfl ?_
              refine tz_goto (pc := 248) (tgt := 252) dX12_termOf_248 (by decide) ?_
              refine tz_aS (pc := 252) (z := ((3 * (b + m)) + 1)) dX12_termOf_252 a_167 rfl (by omega) (by omega) ?_
              refine tz_aload_n (pc := 253) dX12_termOf_253 rfl rfl ?_
              refine tz_fR (pc := 254) dX12_termOf_254 fl_X12_16 r_164_2 ?_
              refine tz_iconst (pc := 257) dX12_termOf_257 ?_
              refine tz_aload_n (pc := 258) dX12_termOf_258 rfl rfl ?_
              refine tz_fI (pc := 259) (kz := 15) (v := b) dX12_termOf_259 fl_X12_71 i_164_15 rfl hM2 (fun r_259 => ?_)
              refine tz_iload (pc := 262) dX12_termOf_262 rfl ?_
              refine tz_iadd (pc := 264) (v := b + m) dX12_termOf_264 rfl ?_
              refine tz_imul (pc := 265) (v := 3 * (b + m)) dX12_termOf_265 rfl ?_
              refine tz_iconst (pc := 266) dX12_termOf_266 ?_
              refine tz_iadd (pc := 267) (v := (3 * (b + m)) + 2) dX12_termOf_267 rfl ?_
              refine tz_iload (pc := 268) dX12_termOf_268 rfl ?_
              refine tz_iconst (pc := 270) dX12_termOf_270 ?_
              refine tz_icmp_leT (pc := 271) (tgt := 279) (by decide) dX12_termOf_271 (by decide) (by decide) (by decide) ?_
              refine tz_iconst (pc := 279) dX12_termOf_279 ?_
              refine tz_aS (pc := 280) (z := ((3 * (b + m)) + 2)) dX12_termOf_280 a_167 rfl (by omega) (by decide) ?_
              refine tz_aload_n (pc := 281) dX12_termOf_281 rfl rfl ?_
              refine tz_fR (pc := 282) dX12_termOf_282 fl_X12_19 r_164_3 ?_
              refine tz_aload_n (pc := 285) dX12_termOf_285 rfl rfl ?_
              refine tz_fI (pc := 286) (kz := 15) (v := b) dX12_termOf_286 fl_X12_71 i_164_15 rfl hM2 (fun r_286 => ?_)
              refine tz_iload (pc := 289) dX12_termOf_289 rfl ?_
              refine tz_iadd (pc := 291) (v := b + m) dX12_termOf_291 rfl ?_
              refine tz_iload (pc := 292) dX12_termOf_292 rfl ?_
              refine tz_aS (pc := 294) (z := (b + m)) dX12_termOf_294 a_168 rfl (by omega) (by omega) ?_
              refine tz_aload_n (pc := 295) dX12_termOf_295 rfl rfl ?_
              refine tz_fR (pc := 296) dX12_termOf_296 fl_X12_9 r_164_0 ?_
              refine tz_aload_n (pc := 299) dX12_termOf_299 rfl rfl ?_
              refine tz_fI (pc := 300) (kz := 16) (v := r) dX12_termOf_300 fl_X12_85 i_164_16 rfl hM3 (fun r_300 => ?_)
              refine tz_iconst (pc := 303) dX12_termOf_303 ?_
              refine tz_iadd (pc := 304) (v := r) dX12_termOf_304 (Int.add_zero _) ?_
              refine tz_dup2 (pc := 305) dX12_termOf_305 rfl rfl ?_
              refine tz_aL (pc := 306) (z := r) (v := m) dX12_termOf_306 a_165 rfl (by omega) hM5 (fun r_306 => ?_)
              refine tz_iconst (pc := 307) dX12_termOf_307 ?_
              refine tz_iadd (pc := 308) (v := m + 1) dX12_termOf_308 rfl ?_
              refine tz_aS (pc := 309) (z := r) dX12_termOf_309 a_165 rfl (by omega) (by omega) ?_
              refine tz_iload (pc := 310) dX12_termOf_310 rfl ?_
              exact tz_iret (pc := 312) (z := m) dX12_termOf_312 rfl (Nat.le_of_ble_eq_true rfl) (Nat.le_of_ble_eq_true rfl) ⟨Nat.le_refl _, Nat.le_add_right _ _⟩ ⟨_, rfl, (by omega), ⟨m + 1, hM.push (A := 2) (x := x) (y := y) (w := w) (by omega) hh (by unfold arh; rw [if_neg (by omega)]; exact hk.2) (by decide) (fun _ => ⟨rfl, by omega, by omega⟩) (fun _ => ⟨rfl, by omega, by omega⟩) (fun g => absurd g (by decide)) (fun q a c => hn q a (by omega)) (by omega) (by omega) h_4, by omega⟩⟩
            · refine tz_iconst (pc := 166) dX12_termOf_166 ?_
              refine tz_goto (pc := 167) (tgt := 171) dX12_termOf_167 (by decide) ?_
              refine tz_pZ (pc := 171) (kz := 21) dX12_termOf_171 fl_X12_92 i_164_21 rfl rfl (Or.inr rfl) ?_
              refine tz_aload_n (pc := 174) dX12_termOf_174 rfl rfl ?_
              refine tz_fI (pc := 175) (kz := 21) (v := 1) dX12_termOf_175 fl_X12_92 i_164_21 rfl rfl (fun _ => ?_)
              refine tz_if_eqF (pc := 178) (tgt := 183) (by decide) dX12_termOf_178 (by decide) (by decide) ?_
              refine tz_iconst (pc := 181) dX12_termOf_181 ?_
              exact tz_iret (pc := 182) (z := 0) dX12_termOf_182 rfl (Nat.le_of_ble_eq_true rfl) (Nat.le_of_ble_eq_true rfl) ⟨Nat.le_refl _, Nat.le_add_right _ _⟩ ⟨_, rfl, (by decide), ⟨m, (MG.rf hM).full (fun q => absurd q (by decide)), by omega⟩⟩
        · refine tz_aload_n (pc := 42) dX12_termOf_42 rfl rfl ?_
          refine tz_iload (pc := 43) dX12_termOf_43 rfl ?_
          refine tz_iload_n (pc := 45) dX12_termOf_45 rfl rfl ?_
          refine tz_iload (pc := 46) dX12_termOf_46 rfl ?_
          refine tz_iload_n (pc := 48) dX12_termOf_48 rfl rfl ?_
          refine tz_iload_n (pc := 49) dX12_termOf_49 rfl rfl ?_
          refine tz_iload (pc := 50) dX12_termOf_50 rfl ?_
          refine tz_cV (pc := 52) (m_isThat hl n _ _ _ _ _ _ _ (by omega) (by omega) (by decide) (by omega) (by omega) (by omega) b r d s m hM (by omega)) vl_X12_100 dX12_termOf_52 o_164 rfl rfl (Nat.le_of_ble_eq_true rfl) ⟨(Nat.le_of_ble_eq_true rfl), (Nat.le_of_ble_eq_true rfl)⟩ rfl rfl (Nat.le_of_ble_eq_true rfl) (Nat.le_of_ble_eq_true rfl) (fun r9 J_52 hq9 => ?_)
          obtain ⟨zi9, rfl, hz_52, rfl, hi1, hi2⟩ := hq9
          refine tz_if_eq (pc := 55) (tgt := 61) dX12_termOf_55 (by decide) (by omega) (fun h_55 => ?_) (fun h_55 => ?_)
          · refine tz_iinc (pc := 61) (z := t + 1) (L2 := [_, _, _, _, _, _, _, _]) dX12_termOf_61 rfl (by omega) rfl ?_
            refine tz_goto (pc := 64) (tgt := 33) dX12_termOf_64 (by decide) ?_
            exact ih33 (t + 1) (by omega) (by omega) (fun q a c => (Decidable.em (q = t)).elim (fun e => by rw [e]; exact fun e9 => by have := hi2.mpr e9; omega) (fun e => hn q a (by omega)))
          · refine tz_iload (pc := 58) dX12_termOf_58 rfl ?_
            exact tz_iret (pc := 60) (z := t) dX12_termOf_60 rfl (Nat.le_of_ble_eq_true rfl) (Nat.le_of_ble_eq_true rfl) ⟨Nat.le_refl _, Nat.le_add_right _ _⟩ ⟨_, rfl, (by omega), ⟨m, MG.rf hM, by omega⟩⟩
    exact loop33 _ 0 (Nat.lt_succ_self _) (by omega) (fun q a c => by omega)
  · refine tz_iconst (pc := 7) dX12_termOf_7 ?_
    exact tz_iret (pc := 8) (z := 0) dX12_termOf_8 rfl (Nat.le_of_ble_eq_true rfl) (Nat.le_of_ble_eq_true rfl) ⟨Nat.le_refl _, Nat.le_add_right _ _⟩ ⟨_, rfl, (by decide), ⟨m, MG.rf hM, by omega⟩⟩

set_option maxHeartbeats 4000000 in
set_option maxRecDepth 100000 in
theorem m_tu3 {l : Launch} {G : tb_G} (hl : l.stackTraces = false) (n : Nat) (J : zJ) (h : Int) (x : Int) (y : Int) (w : Int) (hr_h : -2147483648 ≤ h ∧ h < 2147483648) (hr_x : -2147483648 ≤ x ∧ x < 2147483648) (hr_y : -2147483648 ≤ y ∧ y < 2147483648) (hr_w : -2147483648 ≤ w ∧ w < 2147483648) (b r d s m : Int) (hM : MS J b r d s m) (hh : -8 ≤ h ∧ h < s) (hk : 0 ≤ h ∧ J 170 (d + h) = 3) (hu : J 164 21 = 0 ∨ 0 < m) (hg : (0 < (3 : Int) → 0 ≤ x ∧ x < m) ∧ (1 < (3 : Int) → 0 ≤ y ∧ y < m) ∧ (2 < (3 : Int) → 0 ≤ w ∧ w < m)) : tz_Ok l G M_X12_termOf 2 0 0 [.ref 164, zi h, zi x, zi y, zi w] n J (zqi (fun z J' => ∃ m', MG [] [] (fun _ => false) J' J b r d s m m' ∧ 0 ≤ z ∧ z < m')) zN := by
  refine tz_Ok.of hl (by decide +kernel) rfl (tb_c1 rfl) (Nat.le_of_ble_eq_true rfl) ?_
  show tz_At l G M_X12_termOf (tb_rm 2 0 0) none (tb_ZM G 0 0 (zQ n 0 (zqi (fun z J' => ∃ m', MG [] [] (fun _ => false) J' J b r d s m m' ∧ 0 ≤ z ∧ z < m'))) (zX n 0 zN)) 0 0 n J 0 [some (.ref 164), some (zi h), some (zi x), some (zi y), some (zi w), none, none, none] []
  obtain ⟨hM1, hM2, hM3, hM4, hM5, hM6⟩ := id hM
  have hT := hM.told
  refine tz_aload_n (pc := 0) dX12_termOf_0 rfl rfl ?_
  refine tz_fI (pc := 1) (kz := 21) (v := (J 164 21)) dX12_termOf_1 fl_X12_92 i_164_21 rfl rfl (fun r_1 => ?_)
  refine tz_if_eq (pc := 4) (tgt := 9) dX12_termOf_4 (by decide) (by omega) (fun h_4 => ?_) (fun h_4 => ?_)
  · refine tz_iload_n (pc := 9) dX12_termOf_9 rfl rfl ?_
    refine tz_if_geT (pc := 10) (tgt := 17) (by omega) dX12_termOf_10 (by decide) (by omega) ?_
    refine tz_aload_n (pc := 17) dX12_termOf_17 rfl rfl ?_
    refine tz_fR (pc := 18) dX12_termOf_18 fl_X12_25 r_164_5 ?_
    refine tz_aload_n (pc := 21) dX12_termOf_21 rfl rfl ?_
    refine tz_fI (pc := 22) (kz := 17) (v := d) dX12_termOf_22 fl_X12_82 i_164_17 rfl hM4 (fun r_22 => ?_)
    refine tz_iload_n (pc := 25) dX12_termOf_25 rfl rfl ?_
    refine tz_iadd (pc := 26) (v := d + h) dX12_termOf_26 rfl ?_
    refine tz_aL (pc := 27) (z := (d + h)) (v := 3) dX12_termOf_27 a_170 rfl (by omega) hk.2 (fun _ => ?_)
    refine tz_istore (pc := 28) (L2 := [_, _, _, _, _, _, _, _]) dX12_termOf_28 (by decide) rfl ?_
    refine tz_iconst (pc := 30) dX12_termOf_30 ?_
    refine tz_istore (pc := 31) (L2 := [_, _, _, _, _, _, _, _]) dX12_termOf_31 (by decide) rfl ?_
    have loop33 : ∀ (f9 : Nat) (t : Int), ((m - t).toNat) < f9 → (0 ≤ t ∧ t ≤ m) → (∀ q, 0 ≤ q → q < t → ¬ (J 166 (b + q) = h ∧ (0 < (3 : Int) → J 167 (3 * (b + q) + 0) = x) ∧ (1 < (3 : Int) → J 167 (3 * (b + q) + 1) = y) ∧ (2 < (3 : Int) → J 167 (3 * (b + q) + 2) = w))) → tz_At l G M_X12_termOf (tb_rm 2 0 0) none (tb_ZM G 0 0 (zQ n 0 (zqi (fun z J' => ∃ m', MG [] [] (fun _ => false) J' J b r d s m m' ∧ 0 ≤ z ∧ z < m'))) (zX n 0 zN)) 0 0 n J 33 [some (.ref 164), some (zi h), some (zi x), some (zi y), some (zi w), some (zi 3), some (zi t), none] [] := by
      intro f9
      induction f9 with
      | zero => intro t hm9; exact absurd hm9 (Nat.not_lt_zero _)
      | succ f9 ih33 =>
        intro t hm33 hq hn
        refine tz_iload (pc := 33) dX12_termOf_33 rfl ?_
        refine tz_aload_n (pc := 35) dX12_termOf_35 rfl rfl ?_
        refine tz_cV (pc := 36) (m_many hl n _ b r d s m hM) vl_X12_96 dX12_termOf_36 o_164 rfl rfl (Nat.le_of_ble_eq_true rfl) ⟨(Nat.le_of_ble_eq_true rfl), (Nat.le_of_ble_eq_true rfl)⟩ rfl rfl (Nat.le_of_ble_eq_true rfl) (Nat.le_of_ble_eq_true rfl) (fun r9 J_36 hq9 => ?_)
        obtain ⟨z_36, rfl, hz_36, rfl, rfl⟩ := hq9
        refine tz_icmp_ge (pc := 39) (tgt := 67) dX12_termOf_39 (by decide) (by omega) (by omega) (fun h_39 => ?_) (fun h_39 => ?_)
        · have hz0 := hM.ar (t := x) (by omega)
          have hz1 := hM.ar (t := y) (by omega)
          have hz2 := hM.ar (t := w) (by omega)
          refine tz_iconst (pc := 67) dX12_termOf_67 ?_
          refine tz_istore (pc := 68) (L2 := [_, _, _, _, _, _, _, _]) dX12_termOf_68 (by decide) rfl ?_
          refine tz_iload (pc := 70) dX12_termOf_70 rfl ?_
          refine tz_if_leF (pc := 72) (tgt := 95) (by decide) dX12_termOf_72 (by decide) (by decide) ?_
          refine tz_iload (pc := 75) dX12_termOf_75 rfl ?_
          refine tz_aload_n (pc := 77) dX12_termOf_77 rfl rfl ?_
          refine tz_fR (pc := 78) dX12_termOf_78 fl_X12_19 r_164_3 ?_
          refine tz_aload_n (pc := 81) dX12_termOf_81 rfl rfl ?_
          refine tz_fI (pc := 82) (kz := 15) (v := b) dX12_termOf_82 fl_X12_71 i_164_15 rfl hM2 (fun r_82 => ?_)
          refine tz_iload_n (pc := 85) dX12_termOf_85 rfl rfl ?_
          refine tz_iadd (pc := 86) (v := b + x) dX12_termOf_86 rfl ?_
          refine tz_aL (pc := 87) (z := (b + x)) (v := (J 168 (b + x))) dX12_termOf_87 a_168 rfl (by omega) rfl (fun r_87 => ?_)
          refine tz_iconst (pc := 88) dX12_termOf_88 ?_
          refine tz_iadd (pc := 89) (v := (J 168 (b + x)) + 1) dX12_termOf_89 rfl ?_
          refine tz_cS (pc := 90) (zm_greater hl n _ _ _ (by decide) (by omega)) sl_X12_104 dX12_termOf_90 rfl rfl (Nat.le_of_ble_eq_true rfl) ⟨(Nat.le_of_ble_eq_true rfl), (Nat.le_of_ble_eq_true rfl)⟩ rfl rfl (Nat.le_of_ble_eq_true rfl) (Nat.le_of_ble_eq_true rfl) (fun r9 J_90 hq9 => ?_)
          obtain ⟨z_90, rfl, hz_90, rfl, hg_90⟩ := hq9
          have gz_90 : (1 ≤ z_90 ∧ ((J 168 (b + x)) + 1) ≤ z_90) ∧ (z_90 = 1 ∨ z_90 = ((J 168 (b + x)) + 1)) := by rw [← hg_90]; split <;> omega
          refine tz_istore (pc := 93) (L2 := [_, _, _, _, _, _, _, _]) dX12_termOf_93 (by decide) rfl ?_
          refine tz_iload (pc := 95) dX12_termOf_95 rfl ?_
          refine tz_iconst (pc := 97) dX12_termOf_97 ?_
          refine tz_icmp_leF (pc := 98) (tgt := 121) (by decide) dX12_termOf_98 (by decide) (by decide) (by decide) ?_
          refine tz_iload (pc := 101) dX12_termOf_101 rfl ?_
          refine tz_aload_n (pc := 103) dX12_termOf_103 rfl rfl ?_
          refine tz_fR (pc := 104) dX12_termOf_104 fl_X12_19 r_164_3 ?_
          refine tz_aload_n (pc := 107) dX12_termOf_107 rfl rfl ?_
          refine tz_fI (pc := 108) (kz := 15) (v := b) dX12_termOf_108 fl_X12_71 i_164_15 rfl hM2 (fun r_108 => ?_)
          refine tz_iload_n (pc := 111) dX12_termOf_111 rfl rfl ?_
          refine tz_iadd (pc := 112) (v := b + y) dX12_termOf_112 rfl ?_
          refine tz_aL (pc := 113) (z := (b + y)) (v := (J 168 (b + y))) dX12_termOf_113 a_168 rfl (by omega) rfl (fun r_113 => ?_)
          refine tz_iconst (pc := 114) dX12_termOf_114 ?_
          refine tz_iadd (pc := 115) (v := (J 168 (b + y)) + 1) dX12_termOf_115 rfl ?_
          refine tz_cS (pc := 116) (zm_greater hl n _ _ _ (by omega) (by omega)) sl_X12_104 dX12_termOf_116 rfl rfl (Nat.le_of_ble_eq_true rfl) ⟨(Nat.le_of_ble_eq_true rfl), (Nat.le_of_ble_eq_true rfl)⟩ rfl rfl (Nat.le_of_ble_eq_true rfl) (Nat.le_of_ble_eq_true rfl) (fun r9 J_116 hq9 => ?_)
          obtain ⟨z_116, rfl, hz_116, rfl, hg_116⟩ := hq9
          have gz_116 : (z_90 ≤ z_116 ∧ ((J 168 (b + y)) + 1) ≤ z_116) ∧ (z_116 = z_90 ∨ z_116 = ((J 168 (b + y)) + 1)) := by rw [← hg_116]; split <;> omega
          refine tz_istore (pc := 119) (L2 := [_, _, _, _, _, _, _, _]) dX12_termOf_119 (by decide) rfl ?_
          refine tz_iload (pc := 121) dX12_termOf_121 rfl ?_
          refine tz_iconst (pc := 123) dX12_termOf_123 ?_
          refine tz_icmp_leF (pc := 124) (tgt := 148) (by decide) dX12_termOf_124 (by decide) (by decide) (by decide) ?_
          refine tz_iload (pc := 127) dX12_termOf_127 rfl ?_
          refine tz_aload_n (pc := 129) dX12_termOf_129 rfl rfl ?_
          refine tz_fR (pc := 130) dX12_termOf_130 fl_X12_19 r_164_3 ?_
          refine tz_aload_n (pc := 133) dX12_termOf_133 rfl rfl ?_
          refine tz_fI (pc := 134) (kz := 15) (v := b) dX12_termOf_134 fl_X12_71 i_164_15 rfl hM2 (fun r_134 => ?_)
          refine tz_iload (pc := 137) dX12_termOf_137 rfl ?_
          refine tz_iadd (pc := 139) (v := b + w) dX12_termOf_139 rfl ?_
          refine tz_aL (pc := 140) (z := (b + w)) (v := (J 168 (b + w))) dX12_termOf_140 a_168 rfl (by omega) rfl (fun r_140 => ?_)
          refine tz_iconst (pc := 141) dX12_termOf_141 ?_
          refine tz_iadd (pc := 142) (v := (J 168 (b + w)) + 1) dX12_termOf_142 rfl ?_
          refine tz_cS (pc := 143) (zm_greater hl n _ _ _ (by omega) (by omega)) sl_X12_104 dX12_termOf_143 rfl rfl (Nat.le_of_ble_eq_true rfl) ⟨(Nat.le_of_ble_eq_true rfl), (Nat.le_of_ble_eq_true rfl)⟩ rfl rfl (Nat.le_of_ble_eq_true rfl) (Nat.le_of_ble_eq_true rfl) (fun r9 J_143 hq9 => ?_)
          obtain ⟨z_143, rfl, hz_143, rfl, hg_143⟩ := hq9
          have gz_143 : (z_116 ≤ z_143 ∧ ((J 168 (b + w)) + 1) ≤ z_143) ∧ (z_143 = z_116 ∨ z_143 = ((J 168 (b + w)) + 1)) := by rw [← hg_143]; split <;> omega
          refine tz_istore (pc := 146) (L2 := [_, _, _, _, _, _, _, _]) dX12_termOf_146 (by decide) rfl ?_
          refine tz_aload_n (pc := 148) dX12_termOf_148 rfl rfl ?_
          refine tz_iload (pc := 149) dX12_termOf_149 rfl ?_
          refine tz_bipush (pc := 151) dX12_termOf_151 (by decide) ?_
          refine tz_icmp_gt (pc := 153) (tgt := 166) dX12_termOf_153 (by decide) (by omega) (by decide) (fun h_153 => ?_) (fun h_153 => ?_)
          · refine tz_iconst (pc := 166) dX12_termOf_166 ?_
            refine tz_goto (pc := 167) (tgt := 171) dX12_termOf_167 (by decide) ?_
            refine tz_pZ (pc := 171) (kz := 21) dX12_termOf_171 fl_X12_92 i_164_21 rfl rfl (Or.inr rfl) ?_
            refine tz_aload_n (pc := 174) dX12_termOf_174 rfl rfl ?_
            refine tz_fI (pc := 175) (kz := 21) (v := 1) dX12_termOf_175 fl_X12_92 i_164_21 rfl rfl (fun _ => ?_)
            refine tz_if_eqF (pc := 178) (tgt := 183) (by decide) dX12_termOf_178 (by decide) (by decide) ?_
            refine tz_iconst (pc := 181) dX12_termOf_181 ?_
            exact tz_iret (pc := 182) (z := 0) dX12_termOf_182 rfl (Nat.le_of_ble_eq_true rfl) (Nat.le_of_ble_eq_true rfl) ⟨Nat.le_refl _, Nat.le_add_right _ _⟩ ⟨_, rfl, (by decide), ⟨m, (MG.rf hM).full (fun q => absurd q (by decide)), by omega⟩⟩
          · refine tz_aload_n (pc := 156) dX12_termOf_156 rfl rfl ?_
            refine tz_cV (pc := 157) (m_many hl n _ b r d s m hM) vl_X12_96 dX12_termOf_157 o_164 rfl rfl (Nat.le_of_ble_eq_true rfl) ⟨(Nat.le_of_ble_eq_true rfl), (Nat.le_of_ble_eq_true rfl)⟩ rfl rfl (Nat.le_of_ble_eq_true rfl) (Nat.le_of_ble_eq_true rfl) (fun r9 J_157 hq9 => ?_)
            obtain ⟨z_157, rfl, hz_157, rfl, rfl⟩ := hq9
            refine tz_sipush (pc := 160) dX12_termOf_160 (by decide) ?_
            refine tz_icmp_ne (pc := 163) (tgt := 170) dX12_termOf_163 (by decide) (by omega) (by decide) (fun h_163 => ?_) (fun h_163 => ?_)
            · refine tz_iconst (pc := 170) dX12_termOf_170 ?_
              refine tz_pZ (pc := 171) (kz := 21) dX12_termOf_171 fl_X12_92 i_164_21 rfl rfl (Or.inl rfl) ?_
              refine tz_aload_n (pc := 174) dX12_termOf_174 rfl rfl ?_
              refine tz_fI (pc := 175) (kz := 21) (v := 0) dX12_termOf_175 fl_X12_92 i_164_21 rfl rfl (fun _ => ?_)
              refine tz_if_eqT (pc := 178) (tgt := 183) (by decide) dX12_termOf_178 (by decide) (by decide) ?_
              refine tz_aload_n (pc := 183) dX12_termOf_183 rfl rfl ?_
              refine tz_cV (pc := 184) (m_many hl n _ b r d s m (hM.of ⟨zup_ne (by decide), zup_ne (by decide), zup_ne (by decide)⟩ rfl rfl rfl rfl rfl)) vl_X12_96 dX12_termOf_184 o_164 rfl rfl (Nat.le_of_ble_eq_true rfl) ⟨(Nat.le_of_ble_eq_true rfl), (Nat.le_of_ble_eq_true rfl)⟩ rfl rfl (Nat.le_of_ble_eq_true rfl) (Nat.le_of_ble_eq_true rfl) (fun r9 J_184 hq9 => ?_)
              obtain ⟨z_184, rfl, hz_184, rfl, rfl⟩ := hq9
              refine tz_istore (pc := 187) (L2 := [_, _, _, _, _, _, _, _]) dX12_termOf_187 (by decide) rfl ?_
              refine tz_aload_n (pc := 189) dX12_termOf_189 rfl rfl ?_
              refine tz_fR (pc := 190) dX12_termOf_190 fl_X12_13 r_164_1 ?_
              refine tz_aload_n (pc := 193) dX12_termOf_193 rfl rfl ?_
              refine tz_fI (pc := 194) (kz := 15) (v := b) dX12_termOf_194 fl_X12_71 i_164_15 rfl hM2 (fun r_194 => ?_)
              refine tz_iload (pc := 197) dX12_termOf_197 rfl ?_
              refine tz_iadd (pc := 199) (v := b + m) dX12_termOf_199 rfl ?_
              refine tz_iload_n (pc := 200) dX12_termOf_200 rfl rfl ?_
              refine tz_aS (pc := 201) (z := (b + m)) dX12_termOf_201 a_166 rfl (by omega) (by omega) ?_
              refine tz_aload_n (pc := 202) dX12_termOf_202 rfl rfl ?_
              refine tz_fR (pc := 203) dX12_termOf_203 fl_X12_16 r_164_2 ?_
              refine tz_iconst (pc := 206) dX12_termOf_206 ?_
              refine tz_aload_n (pc := 207) dX12_termOf_207 rfl rfl ?_
              refine tz_fI (pc := 208) (kz := 15) (v := b) dX12_termOf_208 fl_X12_71 i_164_15 rfl hM2 (fun r_208 => ?_)
              refine tz_iload (pc := 211) dX12_termOf_211 rfl ?_
              refine tz_iadd (pc := 213) (v := b + m) dX12_termOf_213 rfl ?_
              refine tz_imul (pc := 214) (v := 3 * (b + m)) dX12_termOf_214 rfl ?_
              refine tz_iload (pc := 215) dX12_termOf_215 rfl ?_
              refine tz_if_leF (pc := 217) (tgt := 224) (by decide) dX12_termOf_217 (by decide) (by decide) ?_
              refine tz_iload_n (pc := 220) dX12_termOf_220 rfl rfl ?_
              refine tz_goto (pc := 221) (tgt := 225) dX12_termOf_221 (by decide) ?_
              refine tz_aS (pc := 225) (z := (3 * (b + m))) dX12_termOf_225 a_167 rfl (by omega) (by omega) ?_
              refine tz_aload_n (pc := 226) dX12_termOf_226 rfl rfl ?_
              refine tz_fR (pc := 227) dX12_termOf_227 fl_X12_16 r_164_2 ?_
              refine tz_iconst (pc := 230) dX12_termOf_230 ?_
              refine tz_aload_n (pc := 231) dX12_termOf_231 rfl rfl ?_
              refine tz_fI (pc := 232) (kz := 15) (v := b) dX12_termOf_232 fl_X12_71 i_164_15 rfl hM2 (fun r_232 => ?_)
              refine tz_iload (pc := 235) dX12_termOf_235 rfl ?_
              refine tz_iadd (pc := 237) (v := b + m) dX12_termOf_237 rfl ?_
              refine tz_imul (pc := 238) (v := 3 * (b + m)) dX12_termOf_238 rfl ?_
              refine tz_iconst (pc := 239) dX12_termOf_239 ?_
              refine tz_iadd (pc := 240) (v := (3 * (b + m)) + 1) dX12_termOf_240 rfl ?_
              refine tz_iload (pc := 241) dX12_termOf_241 rfl ?_
              refine tz_iconst (pc := 243) dX12_termOf_243 ?_
              refine tz_icmp_leF (pc := 244) (tgt := 251) (by decide) dX12_termOf_244 (by decide) (by decide) (by decide) ?_
              refine tz_iload_n (pc := 247) dX12_termOf_247 rfl rfl ?_
              refine tz_goto (pc := 248) (tgt := 252) dX12_termOf_248 (by decide) ?_
              refine tz_aS (pc := 252) (z := ((3 * (b + m)) + 1)) dX12_termOf_252 a_167 rfl (by omega) (by omega) ?_
              refine tz_aload_n (pc := 253) dX12_termOf_253 rfl rfl ?_
              refine tz_fR (pc := 254) dX12_termOf_254 fl_X12_16 r_164_2 ?_
              refine tz_iconst (pc := 257) dX12_termOf_257 ?_
              refine tz_aload_n (pc := 258) dX12_termOf_258 rfl rfl ?_
              refine tz_fI (pc := 259) (kz := 15) (v := b) dX12_termOf_259 fl_X12_71 i_164_15 rfl hM2 (fun r_259 => ?_)
              refine tz_iload (pc := 262) dX12_termOf_262 rfl ?_
              refine tz_iadd (pc := 264) (v := b + m) dX12_termOf_264 rfl ?_
              refine tz_imul (pc := 265) (v := 3 * (b + m)) dX12_termOf_265 rfl ?_
              refine tz_iconst (pc := 266) dX12_termOf_266 ?_
              refine tz_iadd (pc := 267) (v := (3 * (b + m)) + 2) dX12_termOf_267 rfl ?_
              refine tz_iload (pc := 268) dX12_termOf_268 rfl ?_
              refine tz_iconst (pc := 270) dX12_termOf_270 ?_
              refine tz_icmp_leF (pc := 271) (tgt := 279) (by decide) dX12_termOf_271 (by decide) (by decide) (by decide) ?_
              refine tz_iload (pc := 274) dX12_termOf_274 rfl ?_
              refine tz_goto (pc := 276) (tgt := 280) dX12_termOf_276 (by decide) ?_
              refine tz_aS (pc := 280) (z := ((3 * (b + m)) + 2)) dX12_termOf_280 a_167 rfl (by omega) (by omega) ?_
              refine tz_aload_n (pc := 281) dX12_termOf_281 rfl rfl ?_
              refine tz_fR (pc := 282) dX12_termOf_282 fl_X12_19 r_164_3 ?_
              refine tz_aload_n (pc := 285) dX12_termOf_285 rfl rfl ?_
              refine tz_fI (pc := 286) (kz := 15) (v := b) dX12_termOf_286 fl_X12_71 i_164_15 rfl hM2 (fun r_286 => ?_)
              refine tz_iload (pc := 289) dX12_termOf_289 rfl ?_
              refine tz_iadd (pc := 291) (v := b + m) dX12_termOf_291 rfl ?_
              refine tz_iload (pc := 292) dX12_termOf_292 rfl ?_
              refine tz_aS (pc := 294) (z := (b + m)) dX12_termOf_294 a_168 rfl (by omega) (by omega) ?_
              refine tz_aload_n (pc := 295) dX12_termOf_295 rfl rfl ?_
              refine tz_fR (pc := 296) dX12_termOf_296 fl_X12_9 r_164_0 ?_
              refine tz_aload_n (pc := 299) dX12_termOf_299 rfl rfl ?_
              refine tz_fI (pc := 300) (kz := 16) (v := r) dX12_termOf_300 fl_X12_85 i_164_16 rfl hM3 (fun r_300 => ?_)
              refine tz_iconst (pc := 303) dX12_termOf_303 ?_
              refine tz_iadd (pc := 304) (v := r) dX12_termOf_304 (Int.add_zero _) ?_
              refine tz_dup2 (pc := 305) dX12_termOf_305 rfl rfl ?_
              refine tz_aL (pc := 306) (z := r) (v := m) dX12_termOf_306 a_165 rfl (by omega) hM5 (fun r_306 => ?_)
              refine tz_iconst (pc := 307) dX12_termOf_307 ?_
              refine tz_iadd (pc := 308) (v := m + 1) dX12_termOf_308 rfl ?_
              refine tz_aS (pc := 309) (z := r) dX12_termOf_309 a_165 rfl (by omega) (by omega) ?_
              refine tz_iload (pc := 310) dX12_termOf_310 rfl ?_
              exact tz_iret (pc := 312) (z := m) dX12_termOf_312 rfl (Nat.le_of_ble_eq_true rfl) (Nat.le_of_ble_eq_true rfl) ⟨Nat.le_refl _, Nat.le_add_right _ _⟩ ⟨_, rfl, (by omega), ⟨m + 1, hM.push (A := 3) (x := x) (y := y) (w := w) (by omega) hh (by unfold arh; rw [if_neg (by omega)]; exact hk.2) (by decide) (fun _ => ⟨rfl, by omega, by omega⟩) (fun _ => ⟨rfl, by omega, by omega⟩) (fun _ => ⟨rfl, by omega, by omega⟩) (fun q a c => hn q a (by omega)) (by omega) (by omega) h_4, by omega⟩⟩
            · refine tz_iconst (pc := 166) dX12_termOf_166 ?_
              refine tz_goto (pc := 167) (tgt := 171) dX12_termOf_167 (by decide) ?_
              refine tz_pZ (pc := 171) (kz := 21) dX12_termOf_171 fl_X12_92 i_164_21 rfl rfl (Or.inr rfl) ?_
              refine tz_aload_n (pc := 174) dX12_termOf_174 rfl rfl ?_
              refine tz_fI (pc := 175) (kz := 21) (v := 1) dX12_termOf_175 fl_X12_92 i_164_21 rfl rfl (fun _ => ?_)
              refine tz_if_eqF (pc := 178) (tgt := 183) (by decide) dX12_termOf_178 (by decide) (by decide) ?_
              refine tz_iconst (pc := 181) dX12_termOf_181 ?_
              exact tz_iret (pc := 182) (z := 0) dX12_termOf_182 rfl (Nat.le_of_ble_eq_true rfl) (Nat.le_of_ble_eq_true rfl) ⟨Nat.le_refl _, Nat.le_add_right _ _⟩ ⟨_, rfl, (by decide), ⟨m, (MG.rf hM).full (fun q => absurd q (by decide)), by omega⟩⟩
        · refine tz_aload_n (pc := 42) dX12_termOf_42 rfl rfl ?_
          refine tz_iload (pc := 43) dX12_termOf_43 rfl ?_
          refine tz_iload_n (pc := 45) dX12_termOf_45 rfl rfl ?_
          refine tz_iload (pc := 46) dX12_termOf_46 rfl ?_
          refine tz_iload_n (pc := 48) dX12_termOf_48 rfl rfl ?_
          refine tz_iload_n (pc := 49) dX12_termOf_49 rfl rfl ?_
          refine tz_iload (pc := 50) dX12_termOf_50 rfl ?_
          refine tz_cV (pc := 52) (m_isThat hl n _ _ _ _ _ _ _ (by omega) (by omega) (by decide) (by omega) (by omega) (by omega) b r d s m hM (by omega)) vl_X12_100 dX12_termOf_52 o_164 rfl rfl (Nat.le_of_ble_eq_true rfl) ⟨(Nat.le_of_ble_eq_true rfl), (Nat.le_of_ble_eq_true rfl)⟩ rfl rfl (Nat.le_of_ble_eq_true rfl) (Nat.le_of_ble_eq_true rfl) (fun r9 J_52 hq9 => ?_)
          obtain ⟨zi9, rfl, hz_52, rfl, hi1, hi2⟩ := hq9
          refine tz_if_eq (pc := 55) (tgt := 61) dX12_termOf_55 (by decide) (by omega) (fun h_55 => ?_) (fun h_55 => ?_)
          · refine tz_iinc (pc := 61) (z := t + 1) (L2 := [_, _, _, _, _, _, _, _]) dX12_termOf_61 rfl (by omega) rfl ?_
            refine tz_goto (pc := 64) (tgt := 33) dX12_termOf_64 (by decide) ?_
            exact ih33 (t + 1) (by omega) (by omega) (fun q a c => (Decidable.em (q = t)).elim (fun e => by rw [e]; exact fun e9 => by have := hi2.mpr e9; omega) (fun e => hn q a (by omega)))
          · refine tz_iload (pc := 58) dX12_termOf_58 rfl ?_
            exact tz_iret (pc := 60) (z := t) dX12_termOf_60 rfl (Nat.le_of_ble_eq_true rfl) (Nat.le_of_ble_eq_true rfl) ⟨Nat.le_refl _, Nat.le_add_right _ _⟩ ⟨_, rfl, (by omega), ⟨m, MG.rf hM, by omega⟩⟩
    exact loop33 _ 0 (Nat.lt_succ_self _) (by omega) (fun q a c => by omega)
  · refine tz_iconst (pc := 7) dX12_termOf_7 ?_
    exact tz_iret (pc := 8) (z := 0) dX12_termOf_8 rfl (Nat.le_of_ble_eq_true rfl) (Nat.le_of_ble_eq_true rfl) ⟨Nat.le_refl _, Nat.le_add_right _ _⟩ ⟨_, rfl, (by decide), ⟨m, MG.rf hM, by omega⟩⟩

theorem m_varTermU0 {l : Launch} {G : tb_G} (hl : l.stackTraces = false) (n : Nat) (J : zJ) (h : Int) (hr_h : -2147483648 ≤ h ∧ h < 2147483648) (b r d s m : Int) (hM : MS J b r d s m) (hh : -8 ≤ h ∧ h < 0) (hu : J 164 21 = 0 ∨ 0 < m) : tz_Ok l G M_X12_termOf 2 0 0 [.ref 164, zi h, zi 0, zi 0, zi 0] n J (zqi (fun z J' => ∃ m', MG [] [] (fun _ => false) J' J b r d s m m' ∧ 0 ≤ z ∧ z < m')) zN := m_tuN hl n J h 0 0 0 hr_h (by decide) (by decide) (by decide) b r d s m hM (by have := hM.told; omega) hh.2 hu (by omega)
set_option maxHeartbeats 4000000 in
set_option maxRecDepth 100000 in
theorem m_varTermU {l : Launch} {G : tb_G} (hl : l.stackTraces = false) (n : Nat) (J : zJ) (v : Int) (hr_v : -2147483648 ≤ v ∧ v < 2147483648) (b r d s m : Int) (hM : MS J b r d s m) (hv : 0 ≤ v ∧ v < 8) (hu : J 164 21 = 0 ∨ 0 < m) : tz_Ok l G M_X12_variableTerm 3 0 0 [.ref 164, zi v] n J (zqi (fun z J' => ∃ m', MG [] [] (fun _ => false) J' J b r d s m m' ∧ 0 ≤ z ∧ z < m')) zN := by
  refine tz_Ok.of hl (by decide +kernel) rfl (tb_c1 rfl) (Nat.le_of_ble_eq_true rfl) ?_
  show tz_At l G M_X12_variableTerm (tb_rm 3 0 0) none (tb_ZM G 0 0 (zQ n 0 (zqi (fun z J' => ∃ m', MG [] [] (fun _ => false) J' J b r d s m m' ∧ 0 ≤ z ∧ z < m'))) (zX n 0 zN)) 0 0 n J 0 [some (.ref 164), some (zi v)] []
  obtain ⟨hM1, hM2, hM3, hM4, hM5, hM6⟩ := id hM
  have hT := hM.told
  refine tz_aload_n (pc := 0) dX12_variableTerm_0 rfl rfl ?_
  refine tz_iconst (pc := 1) dX12_variableTerm_1 ?_
  refine tz_iload_n (pc := 2) dX12_variableTerm_2 rfl rfl ?_
  refine tz_isub (pc := 3) (v := (-1) - v) dX12_variableTerm_3 rfl ?_
  refine tz_iconst (pc := 4) dX12_variableTerm_4 ?_
  refine tz_iconst (pc := 5) dX12_variableTerm_5 ?_
  refine tz_iconst (pc := 6) dX12_variableTerm_6 ?_
  refine tz_cV (pc := 7) (m_varTermU0 hl n _ _ (by omega) b r d s m hM (by omega) hu) vl_X12_107 dX12_variableTerm_7 o_164 rfl rfl (Nat.le_of_ble_eq_true rfl) ⟨(Nat.le_of_ble_eq_true rfl), (Nat.le_of_ble_eq_true rfl)⟩ rfl rfl (Nat.le_of_ble_eq_true rfl) (Nat.le_of_ble_eq_true rfl) (fun r9 J_7 hq9 => ?_)
  obtain ⟨z_7, rfl, hz_7, m1, g1, h1⟩ := hq9
  exact tz_iret (pc := 10) (z := z_7) dX12_variableTerm_10 rfl (Nat.le_of_ble_eq_true rfl) (Nat.le_of_ble_eq_true rfl) ⟨Nat.le_refl _, Nat.le_add_right _ _⟩ ⟨_, rfl, (by omega), ⟨m1, g1, h1⟩⟩

def TV (J' : zJ) (z m : Int) : Prop := J' 164 43 = 0 → 0 ≤ z ∧ z < m
def rtF : List Int := [35, 36, 38, 39, 40, 41, 42, 43, 20]
/-- the table of a text has grown, the reading gone on -/
def MRT (J' J : zJ) (s m m' : Int) : Prop := MG [] rtF (fun _ => false) J' J 800 126 10 s m m' ∧ RSP J' ∧ (J' 164 43 = 0 → J 164 43 = 0) ∧ rmu J' ≤ rmu J ∧ (J' 164 21 = 0 ∨ 0 < m')
theorem MRT.rf {J : zJ} {s m : Int} (h : MS J 800 126 10 s m) (hP : RSP J) (hu : J 164 21 = 0 ∨ 0 < m) : MRT J J s m m := ⟨MG.rf h, hP, id, Int.le_refl _, hu⟩
theorem MRT.tr {J3 J2 J1 : zJ} {s m1 m2 m3 : Int} (g : MRT J2 J1 s m1 m2) (h : MRT J3 J2 s m2 m3) : MRT J3 J1 s m1 m3 := ⟨g.1.tr h.1, h.2.1, fun q => g.2.2.1 (h.2.2.1 q), Int.le_trans h.2.2.2.1 g.2.2.2.1, h.2.2.2.2⟩
theorem rtF_no {k : Int} (h : rtF.contains k = false) : rdF k = false ∧ ¬ k = 43 ∧ ¬ k = 20 := by
  simp [rtF] at h
  unfold rdF
  simp
  omega
theorem MRT.w {J3 J2 J1 : zJ} {s m m' : Int} (g : MRT J2 J1 s m m') (h : RGw J3 J2) : MRT J3 J1 s m m' := by
  refine ⟨g.1.off (fun k hk => h.1.2 k (rtF_no hk).1 (rtF_no hk).2.1 (rtF_no hk).2.2) (fun k _ => congrFun (h.1.1 165 rfl) k) (h.1.1.mono (zbut_sub (fun c hc => by simp at hc ⊢; omega))) ⟨rfl, rfl, rfl, rfl⟩ rfl ⟨rfl, rfl, rfl, rfl⟩, h.2.1, fun q => g.2.2.1 (h.2.2.1 q), Int.le_trans h.2.2.2 g.2.2.2.1, ?_⟩
  rw [h.1.2 21 rfl (by decide) (by decide)]
  exact g.2.2.2.2
theorem MRT.t {J3 J2 J1 : zJ} {s m m1 m2 : Int} (g : MRT J2 J1 s m m1) (h : MG [] [] (fun _ => false) J3 J2 800 126 10 s m1 m2) (h0 : 0 < m2) : MRT J3 J1 s m m2 := by
  have e : ∀ k, ¬ k = 21 → J3 164 k = J2 164 k := fun k hk => h.2.2.1.2.2.1 k (by simp; omega)
  refine ⟨g.1.tr (h.mono (fun _ q => q) (fun _ q => by simp at q) (fun _ q => q)), ?_, fun q => g.2.2.1 (by rw [← e 43 (by decide)]; exact q), ?_, Or.inr h0⟩
  · unfold RSP RSz
    rw [e 37 (by decide), e 35 (by decide), e 36 (by decide), e 42 (by decide), e 38 (by decide)]
    exact g.2.1
  · unfold rmu
    rw [e 37 (by decide), e 35 (by decide), e 38 (by decide)]
    exact g.2.2.2.1
theorem MRT.f {J2 J1 : zJ} {s m m' : Int} (g : MRT J2 J1 s m m') (k : Int) (hk : (21 :: rtF).contains k = false) : J2 164 k = J1 164 k := g.1.2.2.1.2.2.1 k hk
theorem MRT.c {J2 J1 : zJ} {s m m' : Int} (g : MRT J2 J1 s m m') (c : Nat) (hc : (zbut [164, 165, 166, 167, 168]) c = true) : J2 c = J1 c := g.1.2.2.1.2.2.2 c hc
end
