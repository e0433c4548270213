set_option maxHeartbeats 4000000 in
set_option maxRecDepth 100000 in
theorem c_need1 {l : Launch} {G : tb_G} (hl : l.stackTraces = false) (n : Nat) (J : zJ) (t : Int) (hr_t : -2147483648 ≤ t ∧ t < 2147483648)  (ht : 0 ≤ t ∧ t < J 6 12) : tz_Ok l G M_X11_needTerm 1 0 0 [.ref 0, zi t] n J (zqv (fun J' => J = J')) zN := by
  refine tz_Ok.of hl (by decide +kernel) rfl (tb_c1 rfl) (Nat.le_of_ble_eq_true rfl) ?_
  show tz_At l G M_X11_needTerm (tb_rm 1 0 0) none (tb_ZM G 0 0 (zQ n 0 (zqv (fun J' => J = J'))) (zX n 0 zN)) 0 0 n J 0 [some (.ref 0), some (zi t)] []
  refine tz_aload_n (pc := 0) dX11_needTerm_0 rfl rfl ?_
  refine tz_fR (pc := 1) dX11_needTerm_1 fl_X11_29 r_0_1 ?_
  refine tz_fR (pc := 4) dX11_needTerm_4 fl_X11_49 r_5_0 ?_
  refine tz_iload_n (pc := 7) dX11_needTerm_7 rfl rfl ?_
  refine tz_cV (pc := 8) (c_has hl n _ _ (by omega)) vl_X11_304 dX11_needTerm_8 o_6 rfl rfl (Nat.le_of_ble_eq_true rfl) ⟨(Nat.le_of_ble_eq_true rfl), (Nat.le_of_ble_eq_true rfl)⟩ rfl rfl (Nat.le_of_ble_eq_true rfl) (Nat.le_of_ble_eq_true rfl) (fun r9 J_8 hq9 => ?_)
  obtain ⟨z_8, rfl, hz_8, rfl, rfl⟩ := hq9
  rw [show (if 0 ≤ t ∧ t < J 6 12 then 1 else 0 : Int) = 1 from if_pos ht]
  refine tz_if_neT (pc := 11) (tgt := 25) (by decide) dX11_needTerm_11 (by decide) (by decide) ?_
  exact tz_vret (pc := 25) dX11_needTerm_25 rfl (Nat.le_of_ble_eq_true rfl) (Nat.le_of_ble_eq_true rfl) ⟨Nat.le_refl _, Nat.le_add_right _ _⟩ ⟨rfl, rfl⟩

set_option maxHeartbeats 4000000 in
set_option maxRecDepth 100000 in
theorem c_need0 {l : Launch} {G : tb_G} (hl : l.stackTraces = false) (n : Nat) (J : zJ) (t : Int) (hr_t : -2147483648 ≤ t ∧ t < 2147483648)  (ht : ¬ (0 ≤ t ∧ t < J 6 12)) : tz_Ok l G M_X11_needTerm 6 1 6 [.ref 0, zi t] n J ((fun _ _ => False)) (fun E J' => E = "java/util/NoSuchElementException" ∧ J = J') := by
  refine tz_Ok.of hl (by decide +kernel) rfl (tb_c1 rfl) (Nat.le_of_ble_eq_true rfl) ?_
  show tz_At l G M_X11_needTerm (tb_rm 6 1 6) none (tb_ZM G 1 6 (zQ n 1 ((fun _ _ => False))) (zX n 1 (fun E J' => E = "java/util/NoSuchElementException" ∧ J = J'))) 0 0 n J 0 [some (.ref 0), some (zi t)] []
  refine tz_aload_n (pc := 0) dX11_needTerm_0 rfl rfl ?_
  refine tz_fR (pc := 1) dX11_needTerm_1 fl_X11_29 r_0_1 ?_
  refine tz_fR (pc := 4) dX11_needTerm_4 fl_X11_49 r_5_0 ?_
  refine tz_iload_n (pc := 7) dX11_needTerm_7 rfl rfl ?_
  refine tz_cV (pc := 8) (c_has hl n _ _ (by omega)) vl_X11_304 dX11_needTerm_8 o_6 rfl rfl (Nat.le_of_ble_eq_true rfl) ⟨(Nat.le_of_ble_eq_true rfl), (Nat.le_of_ble_eq_true rfl)⟩ rfl rfl (Nat.le_of_ble_eq_true rfl) (Nat.le_of_ble_eq_true rfl) (fun r9 J_8 hq9 => ?_)
  obtain ⟨z_8, rfl, hz_8, rfl, rfl⟩ := hq9
  rw [show (if 0 ≤ t ∧ t < J 6 12 then 1 else 0 : Int) = 0 from if_neg ht]
  refine tz_if_neF (pc := 11) (tgt := 25) (by decide) dX11_needTerm_11 (by decide) (by decide) ?_
  exact tz_throwNW (pc := 14) (text := "no such term") th_X11_188_192 (by decide +kernel) rfl dX11_needTerm_14 dX11_needTerm_17 dX11_needTerm_18 dX11_needTerm_21 dX11_needTerm_24 (Nat.le_of_ble_eq_true rfl) (Nat.le_of_ble_eq_true rfl) (Nat.le_of_ble_eq_true rfl) (Nat.le_of_ble_eq_true rfl) (Nat.le_of_ble_eq_true rfl) (Nat.le_of_ble_eq_true rfl) ⟨Nat.le_refl _, Nat.le_add_right _ _⟩ ⟨rfl, rfl⟩
