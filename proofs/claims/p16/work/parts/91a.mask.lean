set_option maxHeartbeats 4000000 in
set_option maxRecDepth 100000 in
theorem m_isTermNow {l : Launch} {G : tb_G} (hl : l.stackTraces = false) (n : Nat) (J : zJ) (t : Int) (hr_t : -2147483648 ≤ t ∧ t < 2147483648)  (h0 : 0 ≤ J 165 0) : tz_Ok l G M_X12_isTermNow 2 0 0 [.ref 164, zi t] n J (zqi (fun z J' => (zOf (zbut [164]) J' J ∧ ∀ k, ¬ k = 8 → J' 164 k = J 164 k) ∧ (z = 0 ∨ z = 1) ∧ (z = 1 → 0 ≤ t ∧ t < J 165 0))) zN := by
  refine tz_Ok.of hl (by decide +kernel) rfl (tb_c1 rfl) (Nat.le_of_ble_eq_true rfl) ?_
  show tz_At l G M_X12_isTermNow (tb_rm 2 0 0) none (tb_ZM G 0 0 (zQ n 0 (zqi (fun z J' => (zOf (zbut [164]) J' J ∧ ∀ k, ¬ k = 8 → J' 164 k = J 164 k) ∧ (z = 0 ∨ z = 1) ∧ (z = 1 → 0 ≤ t ∧ t < J 165 0)))) (zX n 0 zN)) 0 0 n J 0 [some (.ref 164), some (zi t)] []
  refine tz_aload_n (pc := 0) dX12_isTermNow_0 rfl rfl ?_
  refine tz_aload_n (pc := 1) dX12_isTermNow_1 rfl rfl ?_
  refine tz_iload_n (pc := 2) dX12_isTermNow_2 rfl rfl ?_
  refine tz_cV (pc := 3) (m_isTerm hl n _ _ (by omega) h0) vl_X12_376 dX12_isTermNow_3 o_164 rfl rfl (Nat.le_of_ble_eq_true rfl) ⟨(Nat.le_of_ble_eq_true rfl), (Nat.le_of_ble_eq_true rfl)⟩ rfl rfl (Nat.le_of_ble_eq_true rfl) (Nat.le_of_ble_eq_true rfl) (fun r9 J_3 hq9 => ?_)
  obtain ⟨z_3, rfl, hz_3, rfl, ht9⟩ := hq9
  refine tz_iconst (pc := 6) dX12_isTermNow_6 ?_
  refine tz_cV (pc := 7) (m_right hl n _ _ _ (by omega) (by decide) (by decide)) vl_X12_334 dX12_isTermNow_7 o_164 rfl rfl (Nat.le_of_ble_eq_true rfl) ⟨(Nat.le_of_ble_eq_true rfl), (Nat.le_of_ble_eq_true rfl)⟩ rfl rfl (Nat.le_of_ble_eq_true rfl) (Nat.le_of_ble_eq_true rfl) (fun r9 J_7 hq9 => ?_)
  obtain ⟨z_7, rfl, hz_7, f9, b9, c9⟩ := hq9
  exact tz_zret (pc := 10) (z := z_7) dX12_isTermNow_10 rfl (by omega) (Nat.le_of_ble_eq_true rfl) (Nat.le_of_ble_eq_true rfl) ⟨Nat.le_refl _, Nat.le_add_right _ _⟩ ⟨_, rfl, (by omega), ⟨f9, b9, fun q9 => by have := (c9 q9).2.2; omega⟩⟩
