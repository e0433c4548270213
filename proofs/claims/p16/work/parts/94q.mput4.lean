/-! ===== put of the reference, exact: the call ===== -/
theorem MOP.mgx {X : List Nat} {Jo Jb : zJ} {s m m' : Int} (hX : ∀ c, c ∈ X → 184 ≤ c) (g : MG X [] (fun _ => false) Jo Jb 0 0 0 s m m') : MOP Jo Jb m := by
  obtain ⟨g1, g2, ⟨f1, f2, f3, f4⟩, g4⟩ := g
  have f5 : ∀ c, 169 ≤ c → c < 172 → Jo c = Jb c := fun c a b => f4 c (by
    simp only [zbut, Bool.not_eq_true', List.contains_eq_mem, decide_eq_false_iff_not, List.mem_cons]
    intro q
    have := hX c
    rcases q with q | q | q | q | q | q
    · omega
    · omega
    · omega
    · omega
    · omega
    · have := this q; omega)
  refine ⟨⟨fun k a => f2 k (by omega) rfl, fun k a b => f1.1 k (by omega), fun k a b => f1.2 k (by omega), f3 12 rfl, f3 13 rfl⟩, fun k a => f2 k (by omega) rfl, ⟨f3 9 rfl, f3 10 rfl, f3 11 rfl⟩, fun t a b => ?_, fun k a b => ?_, fun k _ _ => ⟨by rw [f5 169 (by decide) (by decide)], by rw [f5 170 (by decide) (by decide)], by rw [f5 171 (by decide) (by decide)]⟩⟩
  · have := (g2 t a b).1
    rw [Int.zero_add] at this
    exact this
  · have := (g2 (k / 3) (by omega) (by omega)).2 (k % 3) (by omega) (by omega)
    rw [show 3 * (0 + k / 3) + k % 3 = k from by omega] at this
    exact this
set_option maxHeartbeats 4000000 in
set_option maxRecDepth 100000 in
theorem v_qput {l : Launch} {G : tb_G} (hl : l.stackTraces = false) (n : Nat) (J : zJ) (x : Int) (y : Int) (v : Int) (hr_x : -2147483648 ≤ x ∧ x < 2147483648) (hr_y : -2147483648 ≤ y ∧ y < 2147483648) (hr_v : -2147483648 ≤ v ∧ v < 2147483648) (m : Int) (pn : Int) (RR : Int → Int → Int) (hI : MI J m) (u9 : MUr J pn RR) (hn0 : 184 ≤ n) (hns : n + 7 < tb_sc) : tz_Ok l G M_X12_put 22 7 21 [.ref 164, zi x, zi y, zi v] n J (zqi (fun z J' => MQr J' J ∧ MFI J' J ∧ ((((0 ≤ x ∧ x < J 165 0) ∧ (0 ≤ v ∧ v < J 165 0) ∧ 0 ≤ y ∧ y < msz (tbz J) 0 0 x) ∧ MED (tbz J) pn RR (puO v 6 (tbz J) x y) J' z) ∨ (¬ ((0 ≤ x ∧ x < J 165 0) ∧ (0 ≤ v ∧ v < J 165 0) ∧ 0 ≤ y ∧ y < msz (tbz J) 0 0 x) ∧ z = -1 ∧ MBT J' (tbz J) ∧ MUr J' pn RR)))) zN := by
  refine tz_Ok.of hl (by decide +kernel) rfl (tb_c1 rfl) (Nat.le_of_ble_eq_true rfl) ?_
  show tz_At l G M_X12_put (tb_rm 22 7 21) none (tb_ZM G 7 21 (zQ n 7 (zqi (fun z J' => MQr J' J ∧ MFI J' J ∧ ((((0 ≤ x ∧ x < J 165 0) ∧ (0 ≤ v ∧ v < J 165 0) ∧ 0 ≤ y ∧ y < msz (tbz J) 0 0 x) ∧ MED (tbz J) pn RR (puO v 6 (tbz J) x y) J' z) ∨ (¬ ((0 ≤ x ∧ x < J 165 0) ∧ (0 ≤ v ∧ v < J 165 0) ∧ 0 ≤ y ∧ y < msz (tbz J) 0 0 x) ∧ z = -1 ∧ MBT J' (tbz J) ∧ MUr J' pn RR))))) (zX n 7 zN)) 0 0 n J 0 [some (.ref 164), some (zi x), some (zi y), some (zi v)] []
  have hT := hI.told
  have hW := hI.row
  have hM := hI.1
  have hL := hI.2.1
  have eS : (0 ≤ x ∧ x < J 165 0) → msz (tbz J) 0 0 x = msz J 0 0 x := fun h => (show msz (tbz J) 0 0 x = msz (tb0 J) 0 0 x from rfl).trans (msz_tb hM ⟨h.1, by omega⟩)
  refine tz_aload_n (pc := 0) dX12_put_0 rfl rfl ?_
  refine tz_iconst (pc := 1) dX12_put_1 ?_
  refine tz_pI (pc := 2) (kz := 8) dX12_put_2 fl_X12_68 i_164_8 rfl rfl (by decide) ?_
  refine tz_aload_n (pc := 5) dX12_put_5 rfl rfl ?_
  refine tz_iload_n (pc := 6) dX12_put_6 rfl rfl ?_
  refine tz_cV (pc := 7) (m_isTerm hl n _ _ (by omega) (by rw [(show ((zup J 164 8 0) : zJ) 165 0 = (J 165 0) from rfl)]; omega)) vl_X12_376 dX12_put_7 o_164 rfl rfl (Nat.le_of_ble_eq_true rfl) ⟨(Nat.le_of_ble_eq_true rfl), (Nat.le_of_ble_eq_true rfl)⟩ rfl rfl (Nat.le_of_ble_eq_true rfl) (Nat.le_of_ble_eq_true rfl) (fun r9 J_7 hq9 => ?_)
  obtain ⟨z_7, rfl, hz_7, rfl, ht_7⟩ := hq9
  rw [(show ((zup J 164 8 0) : zJ) 165 0 = (J 165 0) from rfl)] at ht_7
  refine tz_if_eq (pc := 10) (tgt := 31) dX12_put_10 (by decide) (by omega) (fun h_10 => ?_) (fun h_10 => ?_)
  · refine tz_aload_n (pc := 31) dX12_put_31 rfl rfl ?_
    refine tz_iconst (pc := 32) dX12_put_32 ?_
    refine tz_iconst (pc := 33) dX12_put_33 ?_
    refine tz_cV (pc := 34) (m_refuses hl n _ _ _ (by decide) (by decide) (by decide)) vl_X12_391 dX12_put_34 o_164 rfl rfl (Nat.le_of_ble_eq_true rfl) ⟨(Nat.le_of_ble_eq_true rfl), (Nat.le_of_ble_eq_true rfl)⟩ rfl rfl (Nat.le_of_ble_eq_true rfl) (Nat.le_of_ble_eq_true rfl) (fun r9 J_34 hq9 => ?_)
    obtain ⟨z_34, rfl, hz_34, rfl, f_34⟩ := hq9
    have y_34 : MZ J_34 J := MZ.tr (MZ.up (k := 8) MZ.rf (by decide)) (MZ.c f_34 (by decide))
    exact tz_iret (pc := 37) (z := (-1)) dX12_put_37 rfl (Nat.le_of_ble_eq_true rfl) (Nat.le_of_ble_eq_true rfl) ⟨Nat.le_refl _, Nat.le_add_right _ _⟩ ⟨_, rfl, (by decide), ⟨MQr.z hI y_34, MFI.z y_34, Or.inr ⟨fun h9 => by have e9 := eS h9.1; omega, rfl, MBT.z hI y_34, u9.z y_34⟩⟩⟩
  · refine tz_aload_n (pc := 13) dX12_put_13 rfl rfl ?_
    refine tz_iload_n (pc := 14) dX12_put_14 rfl rfl ?_
    refine tz_cV (pc := 15) (m_isTerm hl n _ _ (by omega) (by rw [(show ((zup J 164 8 0) : zJ) 165 0 = (J 165 0) from rfl)]; omega)) vl_X12_376 dX12_put_15 o_164 rfl rfl (Nat.le_of_ble_eq_true rfl) ⟨(Nat.le_of_ble_eq_true rfl), (Nat.le_of_ble_eq_true rfl)⟩ rfl rfl (Nat.le_of_ble_eq_true rfl) (Nat.le_of_ble_eq_true rfl) (fun r9 J_15 hq9 => ?_)
    obtain ⟨z_15, rfl, hz_15, rfl, ht_15⟩ := hq9
    rw [(show ((zup J 164 8 0) : zJ) 165 0 = (J 165 0) from rfl)] at ht_15
    refine tz_if_eq (pc := 18) (tgt := 31) dX12_put_18 (by decide) (by omega) (fun h_18 => ?_) (fun h_18 => ?_)
    · refine tz_aload_n (pc := 31) dX12_put_31 rfl rfl ?_
      refine tz_iconst (pc := 32) dX12_put_32 ?_
      refine tz_iconst (pc := 33) dX12_put_33 ?_
      refine tz_cV (pc := 34) (m_refuses hl n _ _ _ (by decide) (by decide) (by decide)) vl_X12_391 dX12_put_34 o_164 rfl rfl (Nat.le_of_ble_eq_true rfl) ⟨(Nat.le_of_ble_eq_true rfl), (Nat.le_of_ble_eq_true rfl)⟩ rfl rfl (Nat.le_of_ble_eq_true rfl) (Nat.le_of_ble_eq_true rfl) (fun r9 J_34 hq9 => ?_)
      obtain ⟨z_34, rfl, hz_34, rfl, f_34⟩ := hq9
      have y_34 : MZ J_34 J := MZ.tr (MZ.up (k := 8) MZ.rf (by decide)) (MZ.c f_34 (by decide))
      exact tz_iret (pc := 37) (z := (-1)) dX12_put_37 rfl (Nat.le_of_ble_eq_true rfl) (Nat.le_of_ble_eq_true rfl) ⟨Nat.le_refl _, Nat.le_add_right _ _⟩ ⟨_, rfl, (by decide), ⟨MQr.z hI y_34, MFI.z y_34, Or.inr ⟨fun h9 => by have e9 := eS h9.1; omega, rfl, MBT.z hI y_34, u9.z y_34⟩⟩⟩
    · refine tz_aload_n (pc := 21) dX12_put_21 rfl rfl ?_
      refine tz_iload_n (pc := 22) dX12_put_22 rfl rfl ?_
      refine tz_iload_n (pc := 23) dX12_put_23 rfl rfl ?_
      refine tz_cV (pc := 24) (o_place hl n _ _ _ (by omega) (by omega) 0 0 0 (J 164 9) m (hM.z (MZ.up (k := 8) MZ.rf (by decide))) (by omega) ) vl_X12_139 dX12_put_24 o_164 rfl rfl (Nat.le_of_ble_eq_true rfl) ⟨(Nat.le_of_ble_eq_true rfl), (Nat.le_of_ble_eq_true rfl)⟩ rfl rfl (Nat.le_of_ble_eq_true rfl) (Nat.le_of_ble_eq_true rfl) (fun r9 J_24 hq9 => ?_)
      obtain ⟨z_24, rfl, hz_24, rfl, hy1_24, hy2_24, hy3_24⟩ := hq9
      have hy4_24 : 0 ≤ z_24 → 0 ≤ y ∧ y < msz J 0 0 x := hy2_24
      have hy5_24 : 0 ≤ y → y < msz J 0 0 x → 0 ≤ z_24 := hy3_24
      refine tz_iconst (pc := 27) dX12_put_27 ?_
      refine tz_icmp_ne (pc := 28) (tgt := 38) dX12_put_28 (by decide) (by omega) (by decide) (fun h_28 => ?_) (fun h_28 => ?_)
      · refine tz_aload_n (pc := 38) dX12_put_38 rfl rfl ?_
        refine tz_cV (pc := 39) (m_begins hl n _) vl_X12_400 dX12_put_39 o_164 rfl rfl (Nat.le_of_ble_eq_true rfl) ⟨(Nat.le_of_ble_eq_true rfl), (Nat.le_of_ble_eq_true rfl)⟩ rfl rfl (Nat.le_of_ble_eq_true rfl) (Nat.le_of_ble_eq_true rfl) (fun r9 J_39 hq9 => ?_)
        obtain ⟨rfl, hj_39⟩ := hq9
        have a_39 : AM J_39 J m m := by rw [← hj_39]; exact AM.begin (hI.z (MZ.up (k := 8) MZ.rf (by decide))) ⟨MZ.lo (MZ.up (k := 8) MZ.rf (by decide)), SC.z (MZ.up (k := 8) MZ.rf (by decide))⟩
        have br_39 : ∀ k, (k < 63 ∨ 126 ≤ k) → J_39 165 k = ((zup J 164 8 0) : zJ) 165 k := fun k hk => by rw [← hj_39]; exact zbg_r hk
        have bl_39 : ∀ k, ¬ k = 34 → ¬ k = 33 → ¬ k = 21 → J_39 164 k = ((zup J 164 8 0) : zJ) 164 k := fun k u v w => by rw [← hj_39]; exact zbg_f u v w
        have bo_39 : zOf (zbut [164, 165]) J_39 (zup J 164 8 0) := by rw [← hj_39]; exact zbg_of
        have b3_39 : J_39 164 21 = 0 ∧ J_39 164 33 = 0 ∧ J_39 164 34 = 0 := by rw [← hj_39]; exact ⟨rfl, rfl, rfl⟩
        have s9_39 : J_39 164 9 = J 164 9 := (bl_39 9 (by decide) (by decide) (by decide)).trans ((MZ.up (k := 8) MZ.rf (by decide)).2 9 (by decide) (by decide))
        obtain ⟨⟨bt_39, bs_39, bm_39, ba_39⟩, bu_39, bn_39, bf_39, bi_39⟩ := mbeg hI (MZ.up (k := 8) MZ.rf (by decide)) hj_39 u9
        refine tz_aload_n (pc := 42) dX12_put_42 rfl rfl ?_
        refine tz_aload_n (pc := 43) dX12_put_43 rfl rfl ?_
        refine tz_iload_n (pc := 44) dX12_put_44 rfl rfl ?_
        refine tz_iload_n (pc := 45) dX12_put_45 rfl rfl ?_
        refine tz_iload_n (pc := 46) dX12_put_46 rfl rfl ?_
        have mz9 : msz J_39 0 0 x = msz J 0 0 x := by rw [← msz_tb (a_39).1.1 (by omega), bt_39]; exact eS (by omega)
        refine tz_cVX (pc := 47) (o_withPut hl n _ _ _ _ (by omega) (by omega) (by omega) (J_39 164 9) m (a_39).1.1 rfl (by omega) (by omega) (by omega) (by omega) hn0 hns) vl_X12_419 dX12_put_47 o_164 rfl rfl (Nat.le_of_ble_eq_true rfl) ⟨(Nat.le_of_ble_eq_true rfl), (Nat.le_of_ble_eq_true rfl)⟩ rfl rfl (show 0 + 7 ≤ 7 by omega) (show 0 + 21 ≤ 21 by omega) (fun r8 n_47 J_47 hn1_47 hn2_47 hq9 => ?_) (fun E9 n_47 J_47 hn1_47 hn2_47 hx9 => hx9.elim)
        obtain ⟨z_47, rfl, hz_47, m_47, g_47, h_47, x_47⟩ := hq9
        have a_47 := AM.grow0 a_39 g_47 (fun c hc => by simp only [List.mem_range'_1] at hc; omega) (fun k x y => by simp; omega) rfl
        have d9 := ((a_39).1.1.ar (t := x) (by omega)).2.2.1
        have e_47 := x_47 6 d9.2
        rw [bt_39] at e_47
        refine tz_cV (pc := 50) (m_keeps hl n_47 _ _ (by omega) (a_47).2.2.2.1.1.1 (a_47).2.2.2.1.1.2) vl_X12_403 dX12_put_50 o_164 rfl rfl (Nat.le_of_ble_eq_true rfl) ⟨(Nat.le_of_ble_eq_true rfl), (Nat.le_of_ble_eq_true rfl)⟩ rfl rfl (show 0 + 7 ≤ 7 by omega) (show 0 + 21 ≤ 21 by omega) (fun r9 J_50 hq9 => ?_)
        obtain ⟨z_50, rfl, hz_50, k_50⟩ := hq9
        exact tz_iret (pc := 53) (z := z_50) dX12_put_53 rfl (by omega) (by omega) ⟨by omega, by omega⟩ ⟨_, rfl, (by omega), (AE (AM.keep a_47 k_50) bi_39 (mact_end (F := puO v 6 (tbz J) x y) bt_39 bs_39 bm_39 ba_39 bu_39 bn_39 bf_39 (MOP.mgx (fun c hc => by simp only [List.mem_range'_1] at hc; omega) g_47) (congrArg Prod.fst e_47) (by rw [← congrArg Prod.fst e_47]; show J_47 165 0 ≤ 400; have t9 := g_47.1.1.told; have s9 := g_47.1.1.2.2.2.2.1; omega) (fun _ => congrArg Prod.snd e_47) k_50) (by have e9 := eS (by omega); omega))⟩
      · refine tz_aload_n (pc := 31) dX12_put_31 rfl rfl ?_
        refine tz_iconst (pc := 32) dX12_put_32 ?_
        refine tz_iconst (pc := 33) dX12_put_33 ?_
        refine tz_cV (pc := 34) (m_refuses hl n _ _ _ (by decide) (by decide) (by decide)) vl_X12_391 dX12_put_34 o_164 rfl rfl (Nat.le_of_ble_eq_true rfl) ⟨(Nat.le_of_ble_eq_true rfl), (Nat.le_of_ble_eq_true rfl)⟩ rfl rfl (Nat.le_of_ble_eq_true rfl) (Nat.le_of_ble_eq_true rfl) (fun r9 J_34 hq9 => ?_)
        obtain ⟨z_34, rfl, hz_34, rfl, f_34⟩ := hq9
        have y_34 : MZ J_34 J := MZ.tr (MZ.up (k := 8) MZ.rf (by decide)) (MZ.c f_34 (by decide))
        exact tz_iret (pc := 37) (z := (-1)) dX12_put_37 rfl (Nat.le_of_ble_eq_true rfl) (Nat.le_of_ble_eq_true rfl) ⟨Nat.le_refl _, Nat.le_add_right _ _⟩ ⟨_, rfl, (by decide), ⟨MQr.z hI y_34, MFI.z y_34, Or.inr ⟨fun h9 => by have e9 := eS h9.1; omega, rfl, MBT.z hI y_34, u9.z y_34⟩⟩⟩

