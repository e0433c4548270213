/-! ===== draw of the reference, exact ===== -/
theorem MOP.mgi {Jo Jb : zJ} {s m m' v : Int} (g : MG [] [46] (fun _ => false) Jo (zup Jb 164 46 v) 0 0 0 s m m') : MOP Jo Jb m := by
  obtain ⟨g1, g2, ⟨f1, f2, f3, f4⟩, g4⟩ := g
  refine ⟨⟨fun k a => f2 k (by omega) rfl, fun k a b => f1.1 k (by omega), fun k a b => f1.2 k (by omega), f3 12 (by decide), f3 13 (by decide)⟩, fun k a => f2 k (by omega) rfl, ⟨f3 9 (by decide), f3 10 (by decide), f3 11 (by decide)⟩, fun t a b => ?_, fun k a b => ?_, fun k _ _ => ⟨by rw [f4 169 rfl]; rfl, by rw [f4 170 rfl]; rfl, by rw [f4 171 rfl]; rfl⟩⟩
  · have := (g2 t a b).1
    rw [Int.zero_add] at this
    exact this
  · have := (g2 (k / 3) (by omega) (by omega)).2 (k % 3) (by omega) (by omega)
    rw [show 3 * (0 + k / 3) + k % 3 = k from by omega] at this
    exact this
set_option maxHeartbeats 4000000 in
set_option maxRecDepth 100000 in
theorem v_qdraw {l : Launch} {G : tb_G} (hl : l.stackTraces = false) (n : Nat) (J : zJ) (x : Int) (y : Int) (hr_x : -2147483648 ≤ x ∧ x < 2147483648) (hr_y : -2147483648 ≤ y ∧ y < 2147483648) (m : Int) (pn : Int) (RR : Int → Int → Int) (hI : MI J m) (u9 : MUr J pn RR) : tz_Ok l G M_X12_draw 12 0 0 [.ref 164, zi x, zi y] n J (zqi (fun z J' => MQr J' J ∧ MFI J' J ∧ (((1 ≤ y ∧ y ≤ 4) ∧ MED (tbz J) pn RR (drO y.toNat (tbz J) x).1 J' z) ∨ (¬ (1 ≤ y ∧ y ≤ 4) ∧ z = -1 ∧ MBT J' (tbz J) ∧ MUr J' pn RR)))) zN := by
  refine tz_Ok.of hl (by decide +kernel) rfl (tb_c1 rfl) (Nat.le_of_ble_eq_true rfl) ?_
  show tz_At l G M_X12_draw (tb_rm 12 0 0) none (tb_ZM G 0 0 (zQ n 0 (zqi (fun z J' => MQr J' J ∧ MFI J' J ∧ (((1 ≤ y ∧ y ≤ 4) ∧ MED (tbz J) pn RR (drO y.toNat (tbz J) x).1 J' z) ∨ (¬ (1 ≤ y ∧ y ≤ 4) ∧ z = -1 ∧ MBT J' (tbz J) ∧ MUr J' pn RR))))) (zX n 0 zN)) 0 0 n J 0 [some (.ref 164), some (zi x), some (zi y)] []
  have hT := hI.told
  have hW := hI.row
  have hM := hI.1
  have hL := hI.2.1
  refine tz_aload_n (pc := 0) dX12_draw_0 rfl rfl ?_
  refine tz_iconst (pc := 1) dX12_draw_1 ?_
  refine tz_pI (pc := 2) (kz := 8) dX12_draw_2 fl_X12_68 i_164_8 rfl rfl (by decide) ?_
  refine tz_iload_n (pc := 5) dX12_draw_5 rfl rfl ?_
  refine tz_iconst (pc := 6) dX12_draw_6 ?_
  refine tz_iconst (pc := 7) dX12_draw_7 ?_
  refine tz_cS (pc := 8) (m_within hl n _ _ _ _ (by omega) (by decide) (by decide)) sl_X12_283 dX12_draw_8 rfl rfl (Nat.le_of_ble_eq_true rfl) ⟨(Nat.le_of_ble_eq_true rfl), (Nat.le_of_ble_eq_true rfl)⟩ rfl rfl (Nat.le_of_ble_eq_true rfl) (Nat.le_of_ble_eq_true rfl) (fun r9 J_8 hq9 => ?_)
  obtain ⟨z_8, rfl, hz_8, rfl, hw_8⟩ := hq9
  refine tz_if_ne (pc := 11) (tgt := 21) dX12_draw_11 (by decide) (by omega) (fun h_11 => ?_) (fun h_11 => ?_)
  · refine tz_aload_n (pc := 21) dX12_draw_21 rfl rfl ?_
    refine tz_cV (pc := 22) (m_begins hl n _) vl_X12_400 dX12_draw_22 o_164 rfl rfl (Nat.le_of_ble_eq_true rfl) ⟨(Nat.le_of_ble_eq_true rfl), (Nat.le_of_ble_eq_true rfl)⟩ rfl rfl (Nat.le_of_ble_eq_true rfl) (Nat.le_of_ble_eq_true rfl) (fun r9 J_22 hq9 => ?_)
    obtain ⟨rfl, hj_22⟩ := hq9
    have a_22 : AM J_22 J m m := by rw [← hj_22]; exact AM.begin (hI.z (MZ.up (k := 8) MZ.rf (by decide))) ⟨MZ.lo (MZ.up (k := 8) MZ.rf (by decide)), SC.z (MZ.up (k := 8) MZ.rf (by decide))⟩
    have br_22 : ∀ k, (k < 63 ∨ 126 ≤ k) → J_22 165 k = ((zup J 164 8 0) : zJ) 165 k := fun k hk => by rw [← hj_22]; exact zbg_r hk
    have bl_22 : ∀ k, ¬ k = 34 → ¬ k = 33 → ¬ k = 21 → J_22 164 k = ((zup J 164 8 0) : zJ) 164 k := fun k u v w => by rw [← hj_22]; exact zbg_f u v w
    have bo_22 : zOf (zbut [164, 165]) J_22 (zup J 164 8 0) := by rw [← hj_22]; exact zbg_of
    have b3_22 : J_22 164 21 = 0 ∧ J_22 164 33 = 0 ∧ J_22 164 34 = 0 := by rw [← hj_22]; exact ⟨rfl, rfl, rfl⟩
    have s9_22 : J_22 164 9 = J 164 9 := (bl_22 9 (by decide) (by decide) (by decide)).trans ((MZ.up (k := 8) MZ.rf (by decide)).2 9 (by decide) (by decide))
    obtain ⟨⟨bt_22, bs_22, bm_22, ba_22⟩, bu_22, bn_22, bf_22, bi_22⟩ := mbeg hI (MZ.up (k := 8) MZ.rf (by decide)) hj_22 u9
    refine tz_aload_n (pc := 25) dX12_draw_25 rfl rfl ?_
    refine tz_iload_n (pc := 26) dX12_draw_26 rfl rfl ?_
    refine tz_pI (pc := 27) (kz := 46) dX12_draw_27 fl_X12_423 i_164_46 rfl rfl (by omega) ?_
    refine tz_aload_n (pc := 30) dX12_draw_30 rfl rfl ?_
    refine tz_aload_n (pc := 31) dX12_draw_31 rfl rfl ?_
    refine tz_iload_n (pc := 32) dX12_draw_32 rfl rfl ?_
    refine tz_cV (pc := 33) (o_drawn hl n _ _ (by omega) (J_22 164 9) m (AM.z a_22 (MZ.up (k := 46) (v := x) MZ.rf (by decide)) (fun q => q)).1.1 rfl (by omega)) vl_X12_430 dX12_draw_33 o_164 rfl rfl (Nat.le_of_ble_eq_true rfl) ⟨(Nat.le_of_ble_eq_true rfl), (Nat.le_of_ble_eq_true rfl)⟩ rfl rfl (Nat.le_of_ble_eq_true rfl) (Nat.le_of_ble_eq_true rfl) (fun r9 J_33 hq9 => ?_)
    obtain ⟨z_33, rfl, hz_33, m_33, g_33, h_33, x_33⟩ := hq9
    have a_33 := AM.grow0 (AM.z a_22 (MZ.up (k := 46) (v := x) MZ.rf (by decide)) (fun q => q)) g_33 (fun c hc => by simp at hc) (fun k x y => by simp; omega) rfl
    have lm_33 := a_33.1.2.2
    rw [tb0_it, bt_22, show zup J_22 164 46 x 164 46 = x from zup_at] at x_33
    have e_33 := congrArg Prod.fst x_33
    refine tz_cV (pc := 36) (m_keeps hl n _ _ (by omega) (a_33).2.2.2.1.1.1 (a_33).2.2.2.1.1.2) vl_X12_403 dX12_draw_36 o_164 rfl rfl (Nat.le_of_ble_eq_true rfl) ⟨(Nat.le_of_ble_eq_true rfl), (Nat.le_of_ble_eq_true rfl)⟩ rfl rfl (Nat.le_of_ble_eq_true rfl) (Nat.le_of_ble_eq_true rfl) (fun r9 J_36 hq9 => ?_)
    obtain ⟨z_36, rfl, hz_36, k_36⟩ := hq9
    exact tz_iret (pc := 39) (z := z_36) dX12_draw_39 rfl (Nat.le_of_ble_eq_true rfl) (Nat.le_of_ble_eq_true rfl) ⟨Nat.le_refl _, Nat.le_add_right _ _⟩ ⟨_, rfl, (by omega), (AE (AM.keep a_33 k_36) bi_22 (mact_end (F := (drO y.toNat (tbz J) x).1) bt_22 bs_22 bm_22 ba_22 bu_22 bn_22 bf_22 (MOP.mgi g_33) (congrArg Prod.fst e_33) (by rw [← congrArg Prod.fst e_33]; show J_33 165 0 ≤ 400; have t9 := g_33.1.1.told; have s9 := g_33.1.1.2.2.2.2.1; omega) (fun _ => congrArg Prod.snd e_33) k_36) (by omega))⟩
  · refine tz_aload_n (pc := 14) dX12_draw_14 rfl rfl ?_
    refine tz_iconst (pc := 15) dX12_draw_15 ?_
    refine tz_iconst (pc := 16) dX12_draw_16 ?_
    refine tz_cV (pc := 17) (m_refuses hl n _ _ _ (by decide) (by decide) (by decide)) vl_X12_391 dX12_draw_17 o_164 rfl rfl (Nat.le_of_ble_eq_true rfl) ⟨(Nat.le_of_ble_eq_true rfl), (Nat.le_of_ble_eq_true rfl)⟩ rfl rfl (Nat.le_of_ble_eq_true rfl) (Nat.le_of_ble_eq_true rfl) (fun r9 J_17 hq9 => ?_)
    obtain ⟨z_17, rfl, hz_17, rfl, f_17⟩ := hq9
    have y_17 : MZ J_17 J := MZ.tr (MZ.up (k := 8) MZ.rf (by decide)) (MZ.c f_17 (by decide))
    exact tz_iret (pc := 20) (z := (-1)) dX12_draw_20 rfl (Nat.le_of_ble_eq_true rfl) (Nat.le_of_ble_eq_true rfl) ⟨Nat.le_refl _, Nat.le_add_right _ _⟩ ⟨_, rfl, (by decide), ⟨MQr.z hI y_17, MFI.z y_17, Or.inr ⟨by omega, rfl, MBT.z hI y_17, u9.z y_17⟩⟩⟩

