def fkp (c : Nat) : Bool := decide (c < 5 ∨ (5 < c ∧ c < 21) ∨ 60 < c)
set_option maxHeartbeats 4000000 in
set_option maxRecDepth 100000 in
theorem c_refused {l : Launch} {G : tb_G} (hl : l.stackTraces = false) (n : Nat) (J : zJ) (k : Int) (a : Int) (hr_k : -2147483648 ≤ k ∧ k < 2147483648) (hr_a : -2147483648 ≤ a ∧ a < 2147483648)  (hk : 0 ≤ k ∧ k < 4) : tz_Ok l G M_X11_refused 0 0 0 [.ref 0, zi k, zi a] n J (zqi (fun z J' => zOf (zbut [62]) J' J ∧ a = z)) zN := by
  refine tz_Ok.of hl (by decide +kernel) rfl (tb_c1 rfl) (Nat.le_of_ble_eq_true rfl) ?_
  show tz_At l G M_X11_refused (tb_rm 0 0 0) none (tb_ZM G 0 0 (zQ n 0 (zqi (fun z J' => zOf (zbut [62]) J' J ∧ a = z))) (zX n 0 zN)) 0 0 n J 0 [some (.ref 0), some (zi k), some (zi a)] []
  refine tz_aload_n (pc := 0) dX11_refused_0 rfl rfl ?_
  refine tz_fR (pc := 1) dX11_refused_1 fl_X11_29 r_0_1 ?_
  refine tz_fR (pc := 4) dX11_refused_4 fl_X11_142 r_5_4 ?_
  refine tz_iload_n (pc := 7) dX11_refused_7 rfl rfl ?_
  refine tz_dup2 (pc := 8) dX11_refused_8 rfl rfl ?_
  refine tz_aL (pc := 9) (z := k) (v := (J 62 k)) dX11_refused_9 a_62 rfl (by omega) rfl (fun r_9 => ?_)
  refine tz_iconst (pc := 10) dX11_refused_10 ?_
  refine tz_iadd (pc := 11) (v := (J 62 k) + 1) dX11_refused_11 rfl ?_
  refine tz_tw ?_
  have rw_12 := zw_rg ((J 62 k) + 1)
  refine tz_aS (pc := 12) (z := k) dX11_refused_12 a_62 rfl (by omega) (zw_rg _) ?_
  refine tz_iload_n (pc := 13) dX11_refused_13 rfl rfl ?_
  exact tz_iret (pc := 14) (z := a) dX11_refused_14 rfl (Nat.le_of_ble_eq_true rfl) (Nat.le_of_ble_eq_true rfl) ⟨Nat.le_refl _, Nat.le_add_right _ _⟩ ⟨_, rfl, (by omega), ⟨zOf.up rfl zOf.rf, rfl⟩⟩

set_option maxHeartbeats 4000000 in
set_option maxRecDepth 100000 in
theorem c_isVarN {l : Launch} {G : tb_G} (hl : l.stackTraces = false) (n : Nat) (J : zJ) (x : Int) (hr_x : -2147483648 ≤ x ∧ x < 2147483648)   : tz_Ok l G M_X11_isVariableNumber 0 0 0 [zi x] n J (zqi (fun z J' => J = J' ∧ (if 0 ≤ x ∧ x < 8 then 1 else 0) = z)) zN := by
  refine tz_Ok.of hl (by decide +kernel) rfl (tb_c1 rfl) (Nat.le_of_ble_eq_true rfl) ?_
  show tz_At l G M_X11_isVariableNumber (tb_rm 0 0 0) none (tb_ZM G 0 0 (zQ n 0 (zqi (fun z J' => J = J' ∧ (if 0 ≤ x ∧ x < 8 then 1 else 0) = z))) (zX n 0 zN)) 0 0 n J 0 [some (zi x)] []
  refine tz_iload_n (pc := 0) dX11_isVariableNumber_0 rfl rfl ?_
  refine tz_if_lt (pc := 1) (tgt := 14) dX11_isVariableNumber_1 (by decide) (by omega) (fun h_1 => ?_) (fun h_1 => ?_)
  · refine tz_iconst (pc := 14) dX11_isVariableNumber_14 ?_
    exact tz_zret (pc := 15) (z := 0) dX11_isVariableNumber_15 rfl (Or.inl rfl) (Nat.le_of_ble_eq_true rfl) (Nat.le_of_ble_eq_true rfl) ⟨Nat.le_refl _, Nat.le_add_right _ _⟩ ⟨_, rfl, (by decide), ⟨rfl, by split <;> omega⟩⟩
  · refine tz_iload_n (pc := 4) dX11_isVariableNumber_4 rfl rfl ?_
    refine tz_bipush (pc := 5) dX11_isVariableNumber_5 (by decide) ?_
    refine tz_icmp_ge (pc := 7) (tgt := 14) dX11_isVariableNumber_7 (by decide) (by omega) (by decide) (fun h_7 => ?_) (fun h_7 => ?_)
    · refine tz_iconst (pc := 14) dX11_isVariableNumber_14 ?_
      exact tz_zret (pc := 15) (z := 0) dX11_isVariableNumber_15 rfl (Or.inl rfl) (Nat.le_of_ble_eq_true rfl) (Nat.le_of_ble_eq_true rfl) ⟨Nat.le_refl _, Nat.le_add_right _ _⟩ ⟨_, rfl, (by decide), ⟨rfl, by split <;> omega⟩⟩
    · refine tz_iconst (pc := 10) dX11_isVariableNumber_10 ?_
      refine tz_goto (pc := 11) (tgt := 15) dX11_isVariableNumber_11 (by decide) ?_
      exact tz_zret (pc := 15) (z := 1) dX11_isVariableNumber_15 rfl (Or.inr rfl) (Nat.le_of_ble_eq_true rfl) (Nat.le_of_ble_eq_true rfl) ⟨Nat.le_refl _, Nat.le_add_right _ _⟩ ⟨_, rfl, (by decide), ⟨rfl, by split <;> omega⟩⟩

set_option maxHeartbeats 4000000 in
set_option maxRecDepth 100000 in
theorem c_allow {l : Launch} {G : tb_G} (hl : l.stackTraces = false) (n : Nat) (J : zJ)     : tz_Ok l G M_X6_allowSteps 0 0 0 [.ref 158] n J (zqv (fun J' => zup J 158 8 100 = J')) zN := by
  refine tz_Ok.of hl (by decide +kernel) rfl (tb_c1 rfl) (Nat.le_of_ble_eq_true rfl) ?_
  show tz_At l G M_X6_allowSteps (tb_rm 0 0 0) none (tb_ZM G 0 0 (zQ n 0 (zqv (fun J' => zup J 158 8 100 = J'))) (zX n 0 zN)) 0 0 n J 0 [some (.ref 158)] []
  refine tz_aload_n (pc := 0) dX6_allowSteps_0 rfl rfl ?_
  refine tz_bipush (pc := 1) dX6_allowSteps_1 (by decide) ?_
  refine tz_pI (pc := 3) (kz := 8) dX6_allowSteps_3 fl_X6_25 i_158_8 rfl rfl (by decide) ?_
  exact tz_vret (pc := 6) dX6_allowSteps_6 rfl (Nat.le_of_ble_eq_true rfl) (Nat.le_of_ble_eq_true rfl) ⟨Nat.le_refl _, Nat.le_add_right _ _⟩ ⟨rfl, rfl⟩
