/-! ===== bind, room, enter, leave, rules of the reference, exact ===== -/
theorem tb0_up {J : zJ} {k v : Int} (hk : 0 ≤ k ∧ k < 63) : tb0 (zup J 165 k v) = zup (tb0 J) 165 k v := by
  funext c q
  by_cases h5 : c = 165
  · subst h5
    show (if 0 ≤ q ∧ q < 63 then (if q = k then v else J 165 q) else 0) = if q = k then v else if 0 ≤ q ∧ q < 63 then J 165 q else 0
    (repeat' split) <;> first | rfl | omega
  · rw [zup_nc h5]
    unfold tb0
    have e : ∀ d, ¬ d = 165 → zup J 165 k v d = J d := fun d q => zup_nc q
    rw [if_neg h5, if_neg h5, e 164 (by decide), e 167 (by decide), e c h5]
theorem tb0_rl {J : zJ} {u t : Int} (h : 0 ≤ J 165 9 ∧ J 165 9 < 8) : tb0 (zrl J 0 u t) = zrl (tb0 J) 0 u t := by
  have h9 : 0 ≤ J 165 (0 + 9) ∧ J 165 (0 + 9) < 8 := h
  unfold zrl
  rw [tb0_up (by omega), tb0_up (by omega), tb0_up (by omega)]
  rfl
theorem tb0_en {J : zJ} {t : Int} (h : 0 ≤ J 165 26 ∧ J 165 26 < 12) : tb0 (zen J 0 t) = zen (tb0 J) 0 t := by
  have h9 : 0 ≤ J 165 (0 + 26) ∧ J 165 (0 + 26) < 12 := h
  unfold zen
  rw [tb0_up (by omega), tb0_up (by omega)]
  rfl
theorem tb0_lv {J' J : zJ} {w : Int} (f : zOf (zbut [165]) J' J) (h : (0 ≤ w ∧ w < J 165 26) ∧ J 165 26 ≤ 12) (c : J' 165 26 = J 165 26 - 1) (e : ∀ k, 0 ≤ k → k < 63 → ¬ k = 26 → J' 165 k = if 27 + w ≤ k ∧ k < 27 + (J 165 26 - 1) then J 165 (k + 1) else J 165 k) : tb0 J' = zlv (tb0 J) w := by
  funext q k
  by_cases h5 : q = 165
  · subst h5
    show (if 0 ≤ k ∧ k < 63 then J' 165 k else 0) = if k = 26 then J 165 26 - 1 else if 27 + w ≤ k ∧ k < 27 + (J 165 26 - 1) then (if 0 ≤ k + 1 ∧ k + 1 < 63 then J 165 (k + 1) else 0) else if 0 ≤ k ∧ k < 63 then J 165 k else 0
    by_cases hk : 0 ≤ k ∧ k < 63
    · rw [if_pos hk]
      by_cases k6 : k = 26
      · rw [if_pos k6, k6]; exact c
      · rw [if_neg k6, e k hk.1 hk.2 k6]
        by_cases r : 27 + w ≤ k ∧ k < 27 + (J 165 26 - 1)
        · rw [if_pos r, if_pos r, if_pos (by omega)]
        · rw [if_neg r, if_neg r, if_pos hk]
    · rw [if_neg hk, if_neg (by omega), if_neg (by omega), if_neg hk]
  · show tb0 J' q k = (if q = 165 then _ else tb0 J q) k
    rw [if_neg h5]
    unfold tb0
    rw [if_neg h5, if_neg h5, f 164 rfl, f 167 rfl]
    by_cases c6 : q = 166 ∨ q = 168
    · rcases c6 with c6 | c6
      · rw [c6, f 166 rfl]
      · rw [c6, f 168 rfl]
    · rw [if_neg c6, if_neg c6]
      by_cases c9 : q = 169 ∨ q = 170 ∨ q = 171
      · rcases c9 with c9 | c9 | c9
        · rw [c9, f 169 rfl]
        · rw [c9, f 170 rfl]
        · rw [c9, f 171 rfl]
      · rw [if_neg c9, if_neg c9]
theorem MOP.r5 {Jo Jb : zJ} {m : Int} (f : zOf (zbut [165]) Jo Jb) (e : ∀ k, 63 ≤ k → Jo 165 k = Jb 165 k) : MOP Jo Jb m := ⟨⟨fun k a => e k (by omega), fun k _ _ => ⟨by rw [f 166 rfl], by rw [f 168 rfl]⟩, fun k _ _ => by rw [f 167 rfl], by rw [f 164 rfl], by rw [f 164 rfl]⟩, e, ⟨by rw [f 164 rfl], by rw [f 164 rfl], by rw [f 164 rfl]⟩, fun t _ _ => ⟨by rw [f 166 rfl], by rw [f 168 rfl]⟩, fun k _ _ => by rw [f 167 rfl], fun k _ _ => ⟨by rw [f 169 rfl], by rw [f 170 rfl], by rw [f 171 rfl]⟩⟩
/-- the place of an entry, or how many there are -/
def eyM (J : zJ) (t : Int) : Int := fnB (fun k => decide (¬ J 165 (27 + k) = t)) (J 165 26) 0
set_option maxHeartbeats 4000000 in
set_option maxRecDepth 100000 in
theorem v_qbind {l : Launch} {G : tb_G} (hl : l.stackTraces = false) (n : Nat) (J : zJ) (x : Int) (y : Int) (hr_x : -2147483648 ≤ x ∧ x < 2147483648) (hr_y : -2147483648 ≤ y ∧ y < 2147483648) (m : Int) (pn : Int) (RR : Int → Int → Int) (hI : MI J m) (u9 : MUr J pn RR) : tz_Ok l G M_X12_bind 3 0 0 [.ref 164, zi x, zi y] n J (zqi (fun z J' => MQr J' J ∧ MFI J' J ∧ ((((0 ≤ x ∧ x < 8) ∧ (y = -1 ∨ (0 ≤ y ∧ y < J 165 0)) ∧ ¬ J 165 (1 + x) = y + 1) ∧ MED (tbz J) pn RR ((zbd (tbz J) x y, J 165 (1 + x) - 1)) J' z) ∨ (¬ ((0 ≤ x ∧ x < 8) ∧ (y = -1 ∨ (0 ≤ y ∧ y < J 165 0)) ∧ ¬ J 165 (1 + x) = y + 1) ∧ z = -2 ∧ MBT J' (tbz J) ∧ MUr J' pn RR)))) zN := by
  refine tz_Ok.of hl (by decide +kernel) rfl (tb_c1 rfl) (Nat.le_of_ble_eq_true rfl) ?_
  show tz_At l G M_X12_bind (tb_rm 3 0 0) none (tb_ZM G 0 0 (zQ n 0 (zqi (fun z J' => MQr J' J ∧ MFI J' J ∧ ((((0 ≤ x ∧ x < 8) ∧ (y = -1 ∨ (0 ≤ y ∧ y < J 165 0)) ∧ ¬ J 165 (1 + x) = y + 1) ∧ MED (tbz J) pn RR ((zbd (tbz J) x y, J 165 (1 + x) - 1)) J' z) ∨ (¬ ((0 ≤ x ∧ x < 8) ∧ (y = -1 ∨ (0 ≤ y ∧ y < J 165 0)) ∧ ¬ J 165 (1 + x) = y + 1) ∧ z = -2 ∧ MBT J' (tbz J) ∧ MUr J' pn RR))))) (zX n 0 zN)) 0 0 n J 0 [some (.ref 164), some (zi x), some (zi y), none] []
  have hT := hI.told
  have hW := hI.row
  have hM := hI.1
  have hL := hI.2.1
  have hB := hL.2.2.2
  refine tz_aload_n (pc := 0) dX12_bind_0 rfl rfl ?_
  refine tz_iconst (pc := 1) dX12_bind_1 ?_
  refine tz_pI (pc := 2) (kz := 8) dX12_bind_2 fl_X12_68 i_164_8 rfl rfl (by decide) ?_
  refine tz_iload_n (pc := 5) dX12_bind_5 rfl rfl ?_
  refine tz_iconst (pc := 6) dX12_bind_6 ?_
  refine tz_bipush (pc := 7) dX12_bind_7 (by decide) ?_
  refine tz_cS (pc := 9) (m_within hl n _ _ _ _ (by omega) (by decide) (by decide)) sl_X12_283 dX12_bind_9 rfl rfl (Nat.le_of_ble_eq_true rfl) ⟨(Nat.le_of_ble_eq_true rfl), (Nat.le_of_ble_eq_true rfl)⟩ rfl rfl (Nat.le_of_ble_eq_true rfl) (Nat.le_of_ble_eq_true rfl) (fun r9 J_9 hq9 => ?_)
  obtain ⟨z_9, rfl, hz_9, rfl, hw_9⟩ := hq9
  refine tz_if_eq (pc := 12) (tgt := 42) dX12_bind_12 (by decide) (by omega) (fun h_12 => ?_) (fun h_12 => ?_)
  · refine tz_aload_n (pc := 42) dX12_bind_42 rfl rfl ?_
    refine tz_iconst (pc := 43) dX12_bind_43 ?_
    refine tz_bipush (pc := 44) dX12_bind_44 (by decide) ?_
    refine tz_cV (pc := 46) (m_refuses hl n _ _ _ (by decide) (by decide) (by decide)) vl_X12_391 dX12_bind_46 o_164 rfl rfl (Nat.le_of_ble_eq_true rfl) ⟨(Nat.le_of_ble_eq_true rfl), (Nat.le_of_ble_eq_true rfl)⟩ rfl rfl (Nat.le_of_ble_eq_true rfl) (Nat.le_of_ble_eq_true rfl) (fun r9 J_46 hq9 => ?_)
    obtain ⟨z_46, rfl, hz_46, rfl, f_46⟩ := hq9
    have y_46 : MZ J_46 J := MZ.tr (MZ.up (k := 8) MZ.rf (by decide)) (MZ.c f_46 (by decide))
    exact tz_iret (pc := 49) (z := (-2)) dX12_bind_49 rfl (Nat.le_of_ble_eq_true rfl) (Nat.le_of_ble_eq_true rfl) ⟨Nat.le_refl _, Nat.le_add_right _ _⟩ ⟨_, rfl, (by decide), ⟨MQr.z hI y_46, MFI.z y_46, Or.inr ⟨by omega, rfl, MBT.z hI y_46, u9.z y_46⟩⟩⟩
  · refine tz_iload_n (pc := 15) dX12_bind_15 rfl rfl ?_
    refine tz_iconst (pc := 16) dX12_bind_16 ?_
    refine tz_icmp_eq (pc := 17) (tgt := 28) dX12_bind_17 (by decide) (by omega) (by decide) (fun h_17 => ?_) (fun h_17 => ?_)
    · refine tz_aload_n (pc := 28) dX12_bind_28 rfl rfl ?_
      refine tz_fR (pc := 29) dX12_bind_29 fl_X12_9 r_164_0 ?_
      refine tz_iconst (pc := 32) dX12_bind_32 ?_
      refine tz_iload_n (pc := 33) dX12_bind_33 rfl rfl ?_
      refine tz_iadd (pc := 34) (v := 1 + x) dX12_bind_34 rfl ?_
      refine tz_aL (pc := 35) (z := (1 + x)) (v := (J 165 (1 + x))) dX12_bind_35 a_165 rfl (by omega) rfl (fun r_35 => ?_)
      refine tz_iload_n (pc := 36) dX12_bind_36 rfl rfl ?_
      refine tz_iconst (pc := 37) dX12_bind_37 ?_
      refine tz_iadd (pc := 38) (v := y + 1) dX12_bind_38 rfl ?_
      refine tz_icmp_ne (pc := 39) (tgt := 50) dX12_bind_39 (by decide) (by omega) (by omega) (fun h_39 => ?_) (fun h_39 => ?_)
      · refine tz_aload_n (pc := 50) dX12_bind_50 rfl rfl ?_
        refine tz_cV (pc := 51) (m_begins hl n _) vl_X12_400 dX12_bind_51 o_164 rfl rfl (Nat.le_of_ble_eq_true rfl) ⟨(Nat.le_of_ble_eq_true rfl), (Nat.le_of_ble_eq_true rfl)⟩ rfl rfl (Nat.le_of_ble_eq_true rfl) (Nat.le_of_ble_eq_true rfl) (fun r9 J_51 hq9 => ?_)
        obtain ⟨rfl, hj_51⟩ := hq9
        have a_51 : AM J_51 J m m := by rw [← hj_51]; exact AM.begin (hI.z (MZ.up (k := 8) MZ.rf (by decide))) ⟨MZ.lo (MZ.up (k := 8) MZ.rf (by decide)), SC.z (MZ.up (k := 8) MZ.rf (by decide))⟩
        have br_51 : ∀ k, (k < 63 ∨ 126 ≤ k) → J_51 165 k = ((zup J 164 8 0) : zJ) 165 k := fun k hk => by rw [← hj_51]; exact zbg_r hk
        have bl_51 : ∀ k, ¬ k = 34 → ¬ k = 33 → ¬ k = 21 → J_51 164 k = ((zup J 164 8 0) : zJ) 164 k := fun k u v w => by rw [← hj_51]; exact zbg_f u v w
        have bo_51 : zOf (zbut [164, 165]) J_51 (zup J 164 8 0) := by rw [← hj_51]; exact zbg_of
        have b3_51 : J_51 164 21 = 0 ∧ J_51 164 33 = 0 ∧ J_51 164 34 = 0 := by rw [← hj_51]; exact ⟨rfl, rfl, rfl⟩
        have s9_51 : J_51 164 9 = J 164 9 := (bl_51 9 (by decide) (by decide) (by decide)).trans ((MZ.up (k := 8) MZ.rf (by decide)).2 9 (by decide) (by decide))
        obtain ⟨⟨bt_51, bs_51, bm_51, ba_51⟩, bu_51, bn_51, bf_51, bi_51⟩ := mbeg hI (MZ.up (k := 8) MZ.rf (by decide)) hj_51 u9
        refine tz_aload_n (pc := 54) dX12_bind_54 rfl rfl ?_
        refine tz_fR (pc := 55) dX12_bind_55 fl_X12_9 r_164_0 ?_
        refine tz_iconst (pc := 58) dX12_bind_58 ?_
        refine tz_iload_n (pc := 59) dX12_bind_59 rfl rfl ?_
        refine tz_iadd (pc := 60) (v := 1 + x) dX12_bind_60 rfl ?_
        refine tz_aL (pc := 61) (z := (1 + x)) (v := (J 165 (1 + x))) dX12_bind_61 a_165 rfl (by omega) (Eq.trans (br_51 (1 + x) (by omega)) rfl) (fun r_61 => ?_)
        refine tz_iconst (pc := 62) dX12_bind_62 ?_
        refine tz_isub (pc := 63) (v := (J 165 (1 + x)) - 1) dX12_bind_63 rfl ?_
        refine tz_istore_n (pc := 64) (L2 := [_, _, _, _]) dX12_bind_64 rfl (by decide) rfl ?_
        refine tz_aload_n (pc := 65) dX12_bind_65 rfl rfl ?_
        refine tz_fR (pc := 66) dX12_bind_66 fl_X12_9 r_164_0 ?_
        refine tz_iconst (pc := 69) dX12_bind_69 ?_
        refine tz_iload_n (pc := 70) dX12_bind_70 rfl rfl ?_
        refine tz_iadd (pc := 71) (v := 1 + x) dX12_bind_71 rfl ?_
        refine tz_iload_n (pc := 72) dX12_bind_72 rfl rfl ?_
        refine tz_iconst (pc := 73) dX12_bind_73 ?_
        refine tz_iadd (pc := 74) (v := y + 1) dX12_bind_74 rfl ?_
        refine tz_aS (pc := 75) (z := (1 + x)) dX12_bind_75 a_165 rfl (by omega) (by omega) ?_
        refine tz_aload_n (pc := 76) dX12_bind_76 rfl rfl ?_
        refine tz_iload_n (pc := 77) dX12_bind_77 rfl rfl ?_
        refine tz_tw ?_
        have rw_78 := zw_rg ((J 165 (1 + x)) - 1)
        refine tz_cV (pc := 78) (m_keeps hl n _ _ (by omega) ((AM.bind a_51 (by omega) (by omega))).2.2.2.1.1.1 ((AM.bind a_51 (by omega) (by omega))).2.2.2.1.1.2) vl_X12_403 dX12_bind_78 o_164 rfl rfl (Nat.le_of_ble_eq_true rfl) ⟨(Nat.le_of_ble_eq_true rfl), (Nat.le_of_ble_eq_true rfl)⟩ rfl rfl (Nat.le_of_ble_eq_true rfl) (Nat.le_of_ble_eq_true rfl) (fun r9 J_78 hq9 => ?_)
        obtain ⟨z_78, rfl, hz_78, k_78⟩ := hq9
        exact tz_iret (pc := 81) (z := z_78) dX12_bind_81 rfl (Nat.le_of_ble_eq_true rfl) (Nat.le_of_ble_eq_true rfl) ⟨Nat.le_refl _, Nat.le_add_right _ _⟩ ⟨_, rfl, (by omega), (AE (AM.keep (AM.bind a_51 (by omega) (by omega)) k_78) bi_51 (mact_end bt_51 bs_51 bm_51 ba_51 bu_51 bn_51 bf_51 (MOP.r5 (zOf.up rfl zOf.rf) (fun k a => zup_ne (by omega))) (show tb0 (zup J_51 165 (1 + x) (y + 1)) = zbd (tbz J) x y from by rw [tb0_up (by omega), bt_51]; rfl) (by show zup (tbz J) 165 (1 + x) (y + 1) 165 0 ≤ 400; rw [zup_ne (by omega), bs_51]; exact bm_51) (fun _ => (zw_eq (by have := hB (1 + x) (by omega) (by omega); omega))) k_78) (by omega))⟩
      · refine tz_aload_n (pc := 42) dX12_bind_42 rfl rfl ?_
        refine tz_iconst (pc := 43) dX12_bind_43 ?_
        refine tz_bipush (pc := 44) dX12_bind_44 (by decide) ?_
        refine tz_cV (pc := 46) (m_refuses hl n _ _ _ (by decide) (by decide) (by decide)) vl_X12_391 dX12_bind_46 o_164 rfl rfl (Nat.le_of_ble_eq_true rfl) ⟨(Nat.le_of_ble_eq_true rfl), (Nat.le_of_ble_eq_true rfl)⟩ rfl rfl (Nat.le_of_ble_eq_true rfl) (Nat.le_of_ble_eq_true rfl) (fun r9 J_46 hq9 => ?_)
        obtain ⟨z_46, rfl, hz_46, rfl, f_46⟩ := hq9
        have y_46 : MZ J_46 J := MZ.tr (MZ.up (k := 8) MZ.rf (by decide)) (MZ.c f_46 (by decide))
        exact tz_iret (pc := 49) (z := (-2)) dX12_bind_49 rfl (Nat.le_of_ble_eq_true rfl) (Nat.le_of_ble_eq_true rfl) ⟨Nat.le_refl _, Nat.le_add_right _ _⟩ ⟨_, rfl, (by decide), ⟨MQr.z hI y_46, MFI.z y_46, Or.inr ⟨by omega, rfl, MBT.z hI y_46, u9.z y_46⟩⟩⟩
    · refine tz_aload_n (pc := 20) dX12_bind_20 rfl rfl ?_
      refine tz_iload_n (pc := 21) dX12_bind_21 rfl rfl ?_
      refine tz_cV (pc := 22) (m_isTerm hl n _ _ (by omega) (by rw [(show ((zup J 164 8 0) : zJ) 165 0 = (J 165 0) from rfl)]; omega)) vl_X12_376 dX12_bind_22 o_164 rfl rfl (Nat.le_of_ble_eq_true rfl) ⟨(Nat.le_of_ble_eq_true rfl), (Nat.le_of_ble_eq_true rfl)⟩ rfl rfl (Nat.le_of_ble_eq_true rfl) (Nat.le_of_ble_eq_true rfl) (fun r9 J_22 hq9 => ?_)
      obtain ⟨z_22, rfl, hz_22, rfl, ht_22⟩ := hq9
      rw [(show ((zup J 164 8 0) : zJ) 165 0 = (J 165 0) from rfl)] at ht_22
      refine tz_if_eq (pc := 25) (tgt := 42) dX12_bind_25 (by decide) (by omega) (fun h_25 => ?_) (fun h_25 => ?_)
      · refine tz_aload_n (pc := 42) dX12_bind_42 rfl rfl ?_
        refine tz_iconst (pc := 43) dX12_bind_43 ?_
        refine tz_bipush (pc := 44) dX12_bind_44 (by decide) ?_
        refine tz_cV (pc := 46) (m_refuses hl n _ _ _ (by decide) (by decide) (by decide)) vl_X12_391 dX12_bind_46 o_164 rfl rfl (Nat.le_of_ble_eq_true rfl) ⟨(Nat.le_of_ble_eq_true rfl), (Nat.le_of_ble_eq_true rfl)⟩ rfl rfl (Nat.le_of_ble_eq_true rfl) (Nat.le_of_ble_eq_true rfl) (fun r9 J_46 hq9 => ?_)
        obtain ⟨z_46, rfl, hz_46, rfl, f_46⟩ := hq9
        have y_46 : MZ J_46 J := MZ.tr (MZ.up (k := 8) MZ.rf (by decide)) (MZ.c f_46 (by decide))
        exact tz_iret (pc := 49) (z := (-2)) dX12_bind_49 rfl (Nat.le_of_ble_eq_true rfl) (Nat.le_of_ble_eq_true rfl) ⟨Nat.le_refl _, Nat.le_add_right _ _⟩ ⟨_, rfl, (by decide), ⟨MQr.z hI y_46, MFI.z y_46, Or.inr ⟨by omega, rfl, MBT.z hI y_46, u9.z y_46⟩⟩⟩
      · refine tz_aload_n (pc := 28) dX12_bind_28 rfl rfl ?_
        refine tz_fR (pc := 29) dX12_bind_29 fl_X12_9 r_164_0 ?_
        refine tz_iconst (pc := 32) dX12_bind_32 ?_
        refine tz_iload_n (pc := 33) dX12_bind_33 rfl rfl ?_
        refine tz_iadd (pc := 34) (v := 1 + x) dX12_bind_34 rfl ?_
        refine tz_aL (pc := 35) (z := (1 + x)) (v := (J 165 (1 + x))) dX12_bind_35 a_165 rfl (by omega) rfl (fun r_35 => ?_)
        refine tz_iload_n (pc := 36) dX12_bind_36 rfl rfl ?_
        refine tz_iconst (pc := 37) dX12_bind_37 ?_
        refine tz_iadd (pc := 38) (v := y + 1) dX12_bind_38 rfl ?_
        refine tz_icmp_ne (pc := 39) (tgt := 50) dX12_bind_39 (by decide) (by omega) (by omega) (fun h_39 => ?_) (fun h_39 => ?_)
        · refine tz_aload_n (pc := 50) dX12_bind_50 rfl rfl ?_
          refine tz_cV (pc := 51) (m_begins hl n _) vl_X12_400 dX12_bind_51 o_164 rfl rfl (Nat.le_of_ble_eq_true rfl) ⟨(Nat.le_of_ble_eq_true rfl), (Nat.le_of_ble_eq_true rfl)⟩ rfl rfl (Nat.le_of_ble_eq_true rfl) (Nat.le_of_ble_eq_true rfl) (fun r9 J_51 hq9 => ?_)
          obtain ⟨rfl, hj_51⟩ := hq9
          have a_51 : AM J_51 J m m := by rw [← hj_51]; exact AM.begin (hI.z (MZ.up (k := 8) MZ.rf (by decide))) ⟨MZ.lo (MZ.up (k := 8) MZ.rf (by decide)), SC.z (MZ.up (k := 8) MZ.rf (by decide))⟩
          have br_51 : ∀ k, (k < 63 ∨ 126 ≤ k) → J_51 165 k = ((zup J 164 8 0) : zJ) 165 k := fun k hk => by rw [← hj_51]; exact zbg_r hk
          have bl_51 : ∀ k, ¬ k = 34 → ¬ k = 33 → ¬ k = 21 → J_51 164 k = ((zup J 164 8 0) : zJ) 164 k := fun k u v w => by rw [← hj_51]; exact zbg_f u v w
          have bo_51 : zOf (zbut [164, 165]) J_51 (zup J 164 8 0) := by rw [← hj_51]; exact zbg_of
          have b3_51 : J_51 164 21 = 0 ∧ J_51 164 33 = 0 ∧ J_51 164 34 = 0 := by rw [← hj_51]; exact ⟨rfl, rfl, rfl⟩
          have s9_51 : J_51 164 9 = J 164 9 := (bl_51 9 (by decide) (by decide) (by decide)).trans ((MZ.up (k := 8) MZ.rf (by decide)).2 9 (by decide) (by decide))
          obtain ⟨⟨bt_51, bs_51, bm_51, ba_51⟩, bu_51, bn_51, bf_51, bi_51⟩ := mbeg hI (MZ.up (k := 8) MZ.rf (by decide)) hj_51 u9
          refine tz_aload_n (pc := 54) dX12_bind_54 rfl rfl ?_
          refine tz_fR (pc := 55) dX12_bind_55 fl_X12_9 r_164_0 ?_
          refine tz_iconst (pc := 58) dX12_bind_58 ?_
          refine tz_iload_n (pc := 59) dX12_bind_59 rfl rfl ?_
          refine tz_iadd (pc := 60) (v := 1 + x) dX12_bind_60 rfl ?_
          refine tz_aL (pc := 61) (z := (1 + x)) (v := (J 165 (1 + x))) dX12_bind_61 a_165 rfl (by omega) (Eq.trans (br_51 (1 + x) (by omega)) rfl) (fun r_61 => ?_)
          refine tz_iconst (pc := 62) dX12_bind_62 ?_
          refine tz_isub (pc := 63) (v := (J 165 (1 + x)) - 1) dX12_bind_63 rfl ?_
          refine tz_istore_n (pc := 64) (L2 := [_, _, _, _]) dX12_bind_64 rfl (by decide) rfl ?_
          refine tz_aload_n (pc := 65) dX12_bind_65 rfl rfl ?_
          refine tz_fR (pc := 66) dX12_bind_66 fl_X12_9 r_164_0 ?_
          refine tz_iconst (pc := 69) dX12_bind_69 ?_
          refine tz_iload_n (pc := 70) dX12_bind_70 rfl rfl ?_
          refine tz_iadd (pc := 71) (v := 1 + x) dX12_bind_71 rfl ?_
          refine tz_iload_n (pc := 72) dX12_bind_72 rfl rfl ?_
          refine tz_iconst (pc := 73) dX12_bind_73 ?_
          refine tz_iadd (pc := 74) (v := y + 1) dX12_bind_74 rfl ?_
          refine tz_aS (pc := 75) (z := (1 + x)) dX12_bind_75 a_165 rfl (by omega) (by omega) ?_
          refine tz_aload_n (pc := 76) dX12_bind_76 rfl rfl ?_
          refine tz_iload_n (pc := 77) dX12_bind_77 rfl rfl ?_
          refine tz_tw ?_
          have rw_78 := zw_rg ((J 165 (1 + x)) - 1)
          refine tz_cV (pc := 78) (m_keeps hl n _ _ (by omega) ((AM.bind a_51 (by omega) (by omega))).2.2.2.1.1.1 ((AM.bind a_51 (by omega) (by omega))).2.2.2.1.1.2) vl_X12_403 dX12_bind_78 o_164 rfl rfl (Nat.le_of_ble_eq_true rfl) ⟨(Nat.le_of_ble_eq_true rfl), (Nat.le_of_ble_eq_true rfl)⟩ rfl rfl (Nat.le_of_ble_eq_true rfl) (Nat.le_of_ble_eq_true rfl) (fun r9 J_78 hq9 => ?_)
          obtain ⟨z_78, rfl, hz_78, k_78⟩ := hq9
          exact tz_iret (pc := 81) (z := z_78) dX12_bind_81 rfl (Nat.le_of_ble_eq_true rfl) (Nat.le_of_ble_eq_true rfl) ⟨Nat.le_refl _, Nat.le_add_right _ _⟩ ⟨_, rfl, (by omega), (AE (AM.keep (AM.bind a_51 (by omega) (by omega)) k_78) bi_51 (mact_end bt_51 bs_51 bm_51 ba_51 bu_51 bn_51 bf_51 (MOP.r5 (zOf.up rfl zOf.rf) (fun k a => zup_ne (by omega))) (show tb0 (zup J_51 165 (1 + x) (y + 1)) = zbd (tbz J) x y from by rw [tb0_up (by omega), bt_51]; rfl) (by show zup (tbz J) 165 (1 + x) (y + 1) 165 0 ≤ 400; rw [zup_ne (by omega), bs_51]; exact bm_51) (fun _ => (zw_eq (by have := hB (1 + x) (by omega) (by omega); omega))) k_78) (by omega))⟩
        · refine tz_aload_n (pc := 42) dX12_bind_42 rfl rfl ?_
          refine tz_iconst (pc := 43) dX12_bind_43 ?_
          refine tz_bipush (pc := 44) dX12_bind_44 (by decide) ?_
          refine tz_cV (pc := 46) (m_refuses hl n _ _ _ (by decide) (by decide) (by decide)) vl_X12_391 dX12_bind_46 o_164 rfl rfl (Nat.le_of_ble_eq_true rfl) ⟨(Nat.le_of_ble_eq_true rfl), (Nat.le_of_ble_eq_true rfl)⟩ rfl rfl (Nat.le_of_ble_eq_true rfl) (Nat.le_of_ble_eq_true rfl) (fun r9 J_46 hq9 => ?_)
          obtain ⟨z_46, rfl, hz_46, rfl, f_46⟩ := hq9
          have y_46 : MZ J_46 J := MZ.tr (MZ.up (k := 8) MZ.rf (by decide)) (MZ.c f_46 (by decide))
          exact tz_iret (pc := 49) (z := (-2)) dX12_bind_49 rfl (Nat.le_of_ble_eq_true rfl) (Nat.le_of_ble_eq_true rfl) ⟨Nat.le_refl _, Nat.le_add_right _ _⟩ ⟨_, rfl, (by decide), ⟨MQr.z hI y_46, MFI.z y_46, Or.inr ⟨by omega, rfl, MBT.z hI y_46, u9.z y_46⟩⟩⟩

set_option maxHeartbeats 4000000 in
set_option maxRecDepth 100000 in
theorem v_qroom {l : Launch} {G : tb_G} (hl : l.stackTraces = false) (n : Nat) (J : zJ) (x : Int) (hr_x : -2147483648 ≤ x ∧ x < 2147483648) (m : Int) (pn : Int) (RR : Int → Int → Int) (hI : MI J m) (u9 : MUr J pn RR) : tz_Ok l G M_X12_room 3 0 0 [.ref 164, zi x] n J (zqi (fun z J' => MQr J' J ∧ MFI J' J ∧ (((0 ≤ x ∧ x ≤ 9) ∧ MED (tbz J) pn RR ((zrm (tbz J) x, J 165 39)) J' z) ∨ (¬ (0 ≤ x ∧ x ≤ 9) ∧ z = -1 ∧ MBT J' (tbz J) ∧ MUr J' pn RR)))) zN := by
  refine tz_Ok.of hl (by decide +kernel) rfl (tb_c1 rfl) (Nat.le_of_ble_eq_true rfl) ?_
  show tz_At l G M_X12_room (tb_rm 3 0 0) none (tb_ZM G 0 0 (zQ n 0 (zqi (fun z J' => MQr J' J ∧ MFI J' J ∧ (((0 ≤ x ∧ x ≤ 9) ∧ MED (tbz J) pn RR ((zrm (tbz J) x, J 165 39)) J' z) ∨ (¬ (0 ≤ x ∧ x ≤ 9) ∧ z = -1 ∧ MBT J' (tbz J) ∧ MUr J' pn RR))))) (zX n 0 zN)) 0 0 n J 0 [some (.ref 164), some (zi x), none] []
  have hT := hI.told
  have hW := hI.row
  have hM := hI.1
  have hL := hI.2.1
  refine tz_aload_n (pc := 0) dX12_room_0 rfl rfl ?_
  refine tz_iconst (pc := 1) dX12_room_1 ?_
  refine tz_pI (pc := 2) (kz := 8) dX12_room_2 fl_X12_68 i_164_8 rfl rfl (by decide) ?_
  refine tz_iload_n (pc := 5) dX12_room_5 rfl rfl ?_
  refine tz_iconst (pc := 6) dX12_room_6 ?_
  refine tz_bipush (pc := 7) dX12_room_7 (by decide) ?_
  refine tz_cS (pc := 9) (m_within hl n _ _ _ _ (by omega) (by decide) (by decide)) sl_X12_283 dX12_room_9 rfl rfl (Nat.le_of_ble_eq_true rfl) ⟨(Nat.le_of_ble_eq_true rfl), (Nat.le_of_ble_eq_true rfl)⟩ rfl rfl (Nat.le_of_ble_eq_true rfl) (Nat.le_of_ble_eq_true rfl) (fun r9 J_9 hq9 => ?_)
  obtain ⟨z_9, rfl, hz_9, rfl, hw_9⟩ := hq9
  refine tz_if_ne (pc := 12) (tgt := 22) dX12_room_12 (by decide) (by omega) (fun h_12 => ?_) (fun h_12 => ?_)
  · refine tz_aload_n (pc := 22) dX12_room_22 rfl rfl ?_
    refine tz_cV (pc := 23) (m_begins hl n _) vl_X12_400 dX12_room_23 o_164 rfl rfl (Nat.le_of_ble_eq_true rfl) ⟨(Nat.le_of_ble_eq_true rfl), (Nat.le_of_ble_eq_true rfl)⟩ rfl rfl (Nat.le_of_ble_eq_true rfl) (Nat.le_of_ble_eq_true rfl) (fun r9 J_23 hq9 => ?_)
    obtain ⟨rfl, hj_23⟩ := hq9
    have a_23 : AM J_23 J m m := by rw [← hj_23]; exact AM.begin (hI.z (MZ.up (k := 8) MZ.rf (by decide))) ⟨MZ.lo (MZ.up (k := 8) MZ.rf (by decide)), SC.z (MZ.up (k := 8) MZ.rf (by decide))⟩
    have br_23 : ∀ k, (k < 63 ∨ 126 ≤ k) → J_23 165 k = ((zup J 164 8 0) : zJ) 165 k := fun k hk => by rw [← hj_23]; exact zbg_r hk
    have bl_23 : ∀ k, ¬ k = 34 → ¬ k = 33 → ¬ k = 21 → J_23 164 k = ((zup J 164 8 0) : zJ) 164 k := fun k u v w => by rw [← hj_23]; exact zbg_f u v w
    have bo_23 : zOf (zbut [164, 165]) J_23 (zup J 164 8 0) := by rw [← hj_23]; exact zbg_of
    have b3_23 : J_23 164 21 = 0 ∧ J_23 164 33 = 0 ∧ J_23 164 34 = 0 := by rw [← hj_23]; exact ⟨rfl, rfl, rfl⟩
    have s9_23 : J_23 164 9 = J 164 9 := (bl_23 9 (by decide) (by decide) (by decide)).trans ((MZ.up (k := 8) MZ.rf (by decide)).2 9 (by decide) (by decide))
    obtain ⟨⟨bt_23, bs_23, bm_23, ba_23⟩, bu_23, bn_23, bf_23, bi_23⟩ := mbeg hI (MZ.up (k := 8) MZ.rf (by decide)) hj_23 u9
    refine tz_aload_n (pc := 26) dX12_room_26 rfl rfl ?_
    refine tz_fR (pc := 27) dX12_room_27 fl_X12_9 r_164_0 ?_
    refine tz_bipush (pc := 30) dX12_room_30 (by decide) ?_
    refine tz_aL (pc := 32) (z := 39) (v := (J 165 39)) dX12_room_32 a_165 rfl (by decide) (Eq.trans (br_23 39 (by omega)) rfl) (fun r_32 => ?_)
    refine tz_istore_n (pc := 33) (L2 := [_, _, _]) dX12_room_33 rfl (by decide) rfl ?_
    refine tz_aload_n (pc := 34) dX12_room_34 rfl rfl ?_
    refine tz_fR (pc := 35) dX12_room_35 fl_X12_9 r_164_0 ?_
    refine tz_bipush (pc := 38) dX12_room_38 (by decide) ?_
    refine tz_iload_n (pc := 40) dX12_room_40 rfl rfl ?_
    refine tz_aS (pc := 41) (z := 39) dX12_room_41 a_165 rfl (by decide) (by omega) ?_
    refine tz_aload_n (pc := 42) dX12_room_42 rfl rfl ?_
    refine tz_fR (pc := 43) dX12_room_43 fl_X12_9 r_164_0 ?_
    refine tz_bipush (pc := 46) dX12_room_46 (by decide) ?_
    refine tz_iconst (pc := 48) dX12_room_48 ?_
    refine tz_aS (pc := 49) (z := 40) dX12_room_49 a_165 rfl (by decide) (by decide) ?_
    refine tz_aload_n (pc := 50) dX12_room_50 rfl rfl ?_
    refine tz_iload_n (pc := 51) dX12_room_51 rfl rfl ?_
    refine tz_cV (pc := 52) (m_keeps hl n _ _ (by omega) ((AM.room a_23 (by omega))).2.2.2.1.1.1 ((AM.room a_23 (by omega))).2.2.2.1.1.2) vl_X12_403 dX12_room_52 o_164 rfl rfl (Nat.le_of_ble_eq_true rfl) ⟨(Nat.le_of_ble_eq_true rfl), (Nat.le_of_ble_eq_true rfl)⟩ rfl rfl (Nat.le_of_ble_eq_true rfl) (Nat.le_of_ble_eq_true rfl) (fun r9 J_52 hq9 => ?_)
    obtain ⟨z_52, rfl, hz_52, k_52⟩ := hq9
    exact tz_iret (pc := 55) (z := z_52) dX12_room_55 rfl (Nat.le_of_ble_eq_true rfl) (Nat.le_of_ble_eq_true rfl) ⟨Nat.le_refl _, Nat.le_add_right _ _⟩ ⟨_, rfl, (by omega), (AE (AM.keep (AM.room a_23 (by omega)) k_52) bi_23 (mact_end bt_23 bs_23 bm_23 ba_23 bu_23 bn_23 bf_23 (MOP.r5 (zOf.up rfl (zOf.up rfl zOf.rf)) (fun k a => (zup_ne (by omega)).trans (zup_ne (by omega)))) (show tb0 (zup (zup J_23 165 39 x) 165 40 0) = zrm (tbz J) x from by rw [tb0_up (by decide), tb0_up (by decide), bt_23]; rfl) (by show tbz J 165 0 ≤ 400; rw [bs_23]; exact bm_23) (fun _ => rfl) k_52) (by omega))⟩
  · refine tz_aload_n (pc := 15) dX12_room_15 rfl rfl ?_
    refine tz_iconst (pc := 16) dX12_room_16 ?_
    refine tz_iconst (pc := 17) dX12_room_17 ?_
    refine tz_cV (pc := 18) (m_refuses hl n _ _ _ (by decide) (by decide) (by decide)) vl_X12_391 dX12_room_18 o_164 rfl rfl (Nat.le_of_ble_eq_true rfl) ⟨(Nat.le_of_ble_eq_true rfl), (Nat.le_of_ble_eq_true rfl)⟩ rfl rfl (Nat.le_of_ble_eq_true rfl) (Nat.le_of_ble_eq_true rfl) (fun r9 J_18 hq9 => ?_)
    obtain ⟨z_18, rfl, hz_18, rfl, f_18⟩ := hq9
    have y_18 : MZ J_18 J := MZ.tr (MZ.up (k := 8) MZ.rf (by decide)) (MZ.c f_18 (by decide))
    exact tz_iret (pc := 21) (z := (-1)) dX12_room_21 rfl (Nat.le_of_ble_eq_true rfl) (Nat.le_of_ble_eq_true rfl) ⟨Nat.le_refl _, Nat.le_add_right _ _⟩ ⟨_, rfl, (by decide), ⟨MQr.z hI y_18, MFI.z y_18, Or.inr ⟨by omega, rfl, MBT.z hI y_18, u9.z y_18⟩⟩⟩

set_option maxHeartbeats 4000000 in
set_option maxRecDepth 100000 in
theorem x_entryOf0 {l : Launch} {G : tb_G} (hl : l.stackTraces = false) (n : Nat) (J : zJ) (t : Int) (hr_t : -2147483648 ≤ t ∧ t < 2147483648)  (h16 : J 164 16 = 0) (h1 : 0 ≤ J 165 26 ∧ J 165 26 ≤ 12) : tz_Ok l G M_X12_entryOf 0 0 0 [.ref 164, zi t] n J (zqi (fun z J' => J = J' ∧ ((0 ≤ z ∧ z < J 165 26 ∧ eyM J t = z) ∨ (z = -1 ∧ eyM J t = J 165 26)))) zN := by
  refine tz_Ok.of hl (by decide +kernel) rfl (tb_c1 rfl) (Nat.le_of_ble_eq_true rfl) ?_
  show tz_At l G M_X12_entryOf (tb_rm 0 0 0) none (tb_ZM G 0 0 (zQ n 0 (zqi (fun z J' => J = J' ∧ ((0 ≤ z ∧ z < J 165 26 ∧ eyM J t = z) ∨ (z = -1 ∧ eyM J t = J 165 26))))) (zX n 0 zN)) 0 0 n J 0 [some (.ref 164), some (zi t), none] []
  refine tz_iconst (pc := 0) dX12_entryOf_0 ?_
  refine tz_istore_n (pc := 1) (L2 := [_, _, _]) dX12_entryOf_1 rfl (by decide) rfl ?_
  have loop2 : ∀ (f9 : Nat) (k : Int), ((12 - k).toNat) < f9 → (0 ≤ k ∧ k ≤ J 165 26) → (∀ q, 0 ≤ q → q < k → ¬ J 165 (27 + q) = t) → tz_At l G M_X12_entryOf (tb_rm 0 0 0) none (tb_ZM G 0 0 (zQ n 0 (zqi (fun z J' => J = J' ∧ ((0 ≤ z ∧ z < J 165 26 ∧ eyM J t = z) ∨ (z = -1 ∧ eyM J t = J 165 26))))) (zX n 0 zN)) 0 0 n J 2 [some (.ref 164), some (zi t), some (zi k)] [] := by
    intro f9
    induction f9 with
    | zero => intro k hm9; exact absurd hm9 (Nat.not_lt_zero _)
    | succ f9 ih2 =>
      intro k hm2 hk hq
      refine tz_iload_n (pc := 2) dX12_entryOf_2 rfl rfl ?_
      refine tz_aload_n (pc := 3) dX12_entryOf_3 rfl rfl ?_
      refine tz_fR (pc := 4) dX12_entryOf_4 fl_X12_9 r_164_0 ?_
      refine tz_aload_n (pc := 7) dX12_entryOf_7 rfl rfl ?_
      refine tz_fI (pc := 8) (kz := 16) (v := 0) dX12_entryOf_8 fl_X12_85 i_164_16 rfl h16 (fun _ => ?_)
      refine tz_bipush (pc := 11) dX12_entryOf_11 (by decide) ?_
      refine tz_iadd (pc := 13) (v := 26) dX12_entryOf_13 (by decide) ?_
      refine tz_aL (pc := 14) (z := 26) (v := (J 165 26)) dX12_entryOf_14 a_165 rfl (by decide) rfl (fun r_14 => ?_)
      refine tz_icmp_ge (pc := 15) (tgt := 44) dX12_entryOf_15 (by decide) (by omega) (by omega) (fun h_15 => ?_) (fun h_15 => ?_)
      · refine tz_iconst (pc := 44) dX12_entryOf_44 ?_
        exact tz_iret (pc := 45) (z := (-1)) dX12_entryOf_45 rfl (Nat.le_of_ble_eq_true rfl) (Nat.le_of_ble_eq_true rfl) ⟨Nat.le_refl _, Nat.le_add_right _ _⟩ ⟨_, rfl, (by decide), ⟨rfl, Or.inr ⟨rfl, fnB_eq (by omega) (by omega) (fun q a b => decide_eq_true (hq q a (by omega))) (Or.inl rfl)⟩⟩⟩
      · refine tz_aload_n (pc := 18) dX12_entryOf_18 rfl rfl ?_
        refine tz_fR (pc := 19) dX12_entryOf_19 fl_X12_9 r_164_0 ?_
        refine tz_aload_n (pc := 22) dX12_entryOf_22 rfl rfl ?_
        refine tz_fI (pc := 23) (kz := 16) (v := 0) dX12_entryOf_23 fl_X12_85 i_164_16 rfl h16 (fun _ => ?_)
        refine tz_bipush (pc := 26) dX12_entryOf_26 (by decide) ?_
        refine tz_iadd (pc := 28) (v := 27) dX12_entryOf_28 (by decide) ?_
        refine tz_iload_n (pc := 29) dX12_entryOf_29 rfl rfl ?_
        refine tz_iadd (pc := 30) (v := 27 + k) dX12_entryOf_30 rfl ?_
        refine tz_aL (pc := 31) (z := (27 + k)) (v := (J 165 (27 + k))) dX12_entryOf_31 a_165 rfl (by omega) rfl (fun r_31 => ?_)
        refine tz_iload_n (pc := 32) dX12_entryOf_32 rfl rfl ?_
        refine tz_icmp_ne (pc := 33) (tgt := 38) dX12_entryOf_33 (by decide) (by omega) (by omega) (fun h_33 => ?_) (fun h_33 => ?_)
        · refine tz_iinc (pc := 38) (z := k + 1) (L2 := [_, _, _]) dX12_entryOf_38 rfl (by omega) rfl ?_
          refine tz_goto (pc := 41) (tgt := 2) dX12_entryOf_41 (by decide) ?_
          exact ih2 (k + 1) (by omega) (by omega) (fun q a b => (Decidable.em (q = k)).elim (fun e => by rw [e]; omega) (fun e => hq q a (by omega)))
        · refine tz_iload_n (pc := 36) dX12_entryOf_36 rfl rfl ?_
          exact tz_iret (pc := 37) (z := k) dX12_entryOf_37 rfl (Nat.le_of_ble_eq_true rfl) (Nat.le_of_ble_eq_true rfl) ⟨Nat.le_refl _, Nat.le_add_right _ _⟩ ⟨_, rfl, (by omega), ⟨rfl, Or.inl ⟨by omega, by omega, fnB_eq (by omega) (by omega) (fun q a b => decide_eq_true (hq q a b)) (Or.inr (decide_eq_false (fun e => e (by omega))))⟩⟩⟩
  exact loop2 _ 0 (Nat.lt_succ_self _) (by omega) (fun q a b => by omega)

set_option maxHeartbeats 4000000 in
set_option maxRecDepth 100000 in
theorem v_qenter {l : Launch} {G : tb_G} (hl : l.stackTraces = false) (n : Nat) (J : zJ) (x : Int) (hr_x : -2147483648 ≤ x ∧ x < 2147483648) (m : Int) (pn : Int) (RR : Int → Int → Int) (hI : MI J m) (u9 : MUr J pn RR) : tz_Ok l G M_X12_enter 3 0 0 [.ref 164, zi x] n J (zqi (fun z J' => MQr J' J ∧ MFI J' J ∧ ((((0 ≤ x ∧ x < J 165 0) ∧ J 165 26 < 12 ∧ eyM J x = J 165 26) ∧ MED (tbz J) pn RR ((zen (tbz J) 0 x, J 165 26 + 1)) J' z) ∨ (¬ ((0 ≤ x ∧ x < J 165 0) ∧ J 165 26 < 12 ∧ eyM J x = J 165 26) ∧ z = -1 ∧ MBT J' (tbz J) ∧ MUr J' pn RR)))) zN := by
  refine tz_Ok.of hl (by decide +kernel) rfl (tb_c1 rfl) (Nat.le_of_ble_eq_true rfl) ?_
  show tz_At l G M_X12_enter (tb_rm 3 0 0) none (tb_ZM G 0 0 (zQ n 0 (zqi (fun z J' => MQr J' J ∧ MFI J' J ∧ ((((0 ≤ x ∧ x < J 165 0) ∧ J 165 26 < 12 ∧ eyM J x = J 165 26) ∧ MED (tbz J) pn RR ((zen (tbz J) 0 x, J 165 26 + 1)) J' z) ∨ (¬ ((0 ≤ x ∧ x < J 165 0) ∧ J 165 26 < 12 ∧ eyM J x = J 165 26) ∧ z = -1 ∧ MBT J' (tbz J) ∧ MUr J' pn RR))))) (zX n 0 zN)) 0 0 n J 0 [some (.ref 164), some (zi x)] []
  have hT := hI.told
  have hW := hI.row
  have hM := hI.1
  have hL := hI.2.1
  refine tz_aload_n (pc := 0) dX12_enter_0 rfl rfl ?_
  refine tz_iconst (pc := 1) dX12_enter_1 ?_
  refine tz_pI (pc := 2) (kz := 8) dX12_enter_2 fl_X12_68 i_164_8 rfl rfl (by decide) ?_
  refine tz_aload_n (pc := 5) dX12_enter_5 rfl rfl ?_
  refine tz_iload_n (pc := 6) dX12_enter_6 rfl rfl ?_
  refine tz_cV (pc := 7) (m_isTerm hl n _ _ (by omega) (by rw [(show ((zup J 164 8 0) : zJ) 165 0 = (J 165 0) from rfl)]; omega)) vl_X12_376 dX12_enter_7 o_164 rfl rfl (Nat.le_of_ble_eq_true rfl) ⟨(Nat.le_of_ble_eq_true rfl), (Nat.le_of_ble_eq_true rfl)⟩ rfl rfl (Nat.le_of_ble_eq_true rfl) (Nat.le_of_ble_eq_true rfl) (fun r9 J_7 hq9 => ?_)
  obtain ⟨z_7, rfl, hz_7, rfl, ht_7⟩ := hq9
  rw [(show ((zup J 164 8 0) : zJ) 165 0 = (J 165 0) from rfl)] at ht_7
  refine tz_if_eq (pc := 10) (tgt := 34) dX12_enter_10 (by decide) (by omega) (fun h_10 => ?_) (fun h_10 => ?_)
  · refine tz_aload_n (pc := 34) dX12_enter_34 rfl rfl ?_
    refine tz_iconst (pc := 35) dX12_enter_35 ?_
    refine tz_iconst (pc := 36) dX12_enter_36 ?_
    refine tz_cV (pc := 37) (m_refuses hl n _ _ _ (by decide) (by decide) (by decide)) vl_X12_391 dX12_enter_37 o_164 rfl rfl (Nat.le_of_ble_eq_true rfl) ⟨(Nat.le_of_ble_eq_true rfl), (Nat.le_of_ble_eq_true rfl)⟩ rfl rfl (Nat.le_of_ble_eq_true rfl) (Nat.le_of_ble_eq_true rfl) (fun r9 J_37 hq9 => ?_)
    obtain ⟨z_37, rfl, hz_37, rfl, f_37⟩ := hq9
    have y_37 : MZ J_37 J := MZ.tr (MZ.up (k := 8) MZ.rf (by decide)) (MZ.c f_37 (by decide))
    exact tz_iret (pc := 40) (z := (-1)) dX12_enter_40 rfl (Nat.le_of_ble_eq_true rfl) (Nat.le_of_ble_eq_true rfl) ⟨Nat.le_refl _, Nat.le_add_right _ _⟩ ⟨_, rfl, (by decide), ⟨MQr.z hI y_37, MFI.z y_37, Or.inr ⟨by omega, rfl, MBT.z hI y_37, u9.z y_37⟩⟩⟩
  · refine tz_aload_n (pc := 13) dX12_enter_13 rfl rfl ?_
    refine tz_fR (pc := 14) dX12_enter_14 fl_X12_9 r_164_0 ?_
    refine tz_bipush (pc := 17) dX12_enter_17 (by decide) ?_
    refine tz_aL (pc := 19) (z := 26) (v := (J 165 26)) dX12_enter_19 a_165 rfl (by decide) rfl (fun r_19 => ?_)
    refine tz_bipush (pc := 20) dX12_enter_20 (by decide) ?_
    refine tz_icmp_eq (pc := 22) (tgt := 34) dX12_enter_22 (by decide) (by omega) (by decide) (fun h_22 => ?_) (fun h_22 => ?_)
    · refine tz_aload_n (pc := 34) dX12_enter_34 rfl rfl ?_
      refine tz_iconst (pc := 35) dX12_enter_35 ?_
      refine tz_iconst (pc := 36) dX12_enter_36 ?_
      refine tz_cV (pc := 37) (m_refuses hl n _ _ _ (by decide) (by decide) (by decide)) vl_X12_391 dX12_enter_37 o_164 rfl rfl (Nat.le_of_ble_eq_true rfl) ⟨(Nat.le_of_ble_eq_true rfl), (Nat.le_of_ble_eq_true rfl)⟩ rfl rfl (Nat.le_of_ble_eq_true rfl) (Nat.le_of_ble_eq_true rfl) (fun r9 J_37 hq9 => ?_)
      obtain ⟨z_37, rfl, hz_37, rfl, f_37⟩ := hq9
      have y_37 : MZ J_37 J := MZ.tr (MZ.up (k := 8) MZ.rf (by decide)) (MZ.c f_37 (by decide))
      exact tz_iret (pc := 40) (z := (-1)) dX12_enter_40 rfl (Nat.le_of_ble_eq_true rfl) (Nat.le_of_ble_eq_true rfl) ⟨Nat.le_refl _, Nat.le_add_right _ _⟩ ⟨_, rfl, (by decide), ⟨MQr.z hI y_37, MFI.z y_37, Or.inr ⟨by omega, rfl, MBT.z hI y_37, u9.z y_37⟩⟩⟩
    · refine tz_aload_n (pc := 25) dX12_enter_25 rfl rfl ?_
      refine tz_iload_n (pc := 26) dX12_enter_26 rfl rfl ?_
      have h16_27 : ((zup J 164 8 0) : zJ) 164 16 = 0 := hT.2.2.2.1.2.1
      refine tz_cV (pc := 27) (x_entryOf0 hl n _ _ (by omega) h16_27 hL.2.2.1.1) vl_X12_307 dX12_enter_27 o_164 rfl rfl (Nat.le_of_ble_eq_true rfl) ⟨(Nat.le_of_ble_eq_true rfl), (Nat.le_of_ble_eq_true rfl)⟩ rfl rfl (Nat.le_of_ble_eq_true rfl) (Nat.le_of_ble_eq_true rfl) (fun r9 J_27 hq9 => ?_)
      obtain ⟨ze, rfl, hz_27, rfl, he9⟩ := hq9
      have he7 : (0 ≤ ze ∧ ze < J 165 26 ∧ eyM J x = ze) ∨ (ze = -1 ∧ eyM J x = J 165 26) := he9
      refine tz_iconst (pc := 30) dX12_enter_30 ?_
      refine tz_icmp_eq (pc := 31) (tgt := 41) dX12_enter_31 (by decide) (by omega) (by decide) (fun h_31 => ?_) (fun h_31 => ?_)
      · refine tz_aload_n (pc := 41) dX12_enter_41 rfl rfl ?_
        refine tz_cV (pc := 42) (m_begins hl n _) vl_X12_400 dX12_enter_42 o_164 rfl rfl (Nat.le_of_ble_eq_true rfl) ⟨(Nat.le_of_ble_eq_true rfl), (Nat.le_of_ble_eq_true rfl)⟩ rfl rfl (Nat.le_of_ble_eq_true rfl) (Nat.le_of_ble_eq_true rfl) (fun r9 J_42 hq9 => ?_)
        obtain ⟨rfl, hj_42⟩ := hq9
        have a_42 : AM J_42 J m m := by rw [← hj_42]; exact AM.begin (hI.z (MZ.up (k := 8) MZ.rf (by decide))) ⟨MZ.lo (MZ.up (k := 8) MZ.rf (by decide)), SC.z (MZ.up (k := 8) MZ.rf (by decide))⟩
        have br_42 : ∀ k, (k < 63 ∨ 126 ≤ k) → J_42 165 k = ((zup J 164 8 0) : zJ) 165 k := fun k hk => by rw [← hj_42]; exact zbg_r hk
        have bl_42 : ∀ k, ¬ k = 34 → ¬ k = 33 → ¬ k = 21 → J_42 164 k = ((zup J 164 8 0) : zJ) 164 k := fun k u v w => by rw [← hj_42]; exact zbg_f u v w
        have bo_42 : zOf (zbut [164, 165]) J_42 (zup J 164 8 0) := by rw [← hj_42]; exact zbg_of
        have b3_42 : J_42 164 21 = 0 ∧ J_42 164 33 = 0 ∧ J_42 164 34 = 0 := by rw [← hj_42]; exact ⟨rfl, rfl, rfl⟩
        have s9_42 : J_42 164 9 = J 164 9 := (bl_42 9 (by decide) (by decide) (by decide)).trans ((MZ.up (k := 8) MZ.rf (by decide)).2 9 (by decide) (by decide))
        obtain ⟨⟨bt_42, bs_42, bm_42, ba_42⟩, bu_42, bn_42, bf_42, bi_42⟩ := mbeg hI (MZ.up (k := 8) MZ.rf (by decide)) hj_42 u9
        refine tz_aload_n (pc := 45) dX12_enter_45 rfl rfl ?_
        refine tz_iload_n (pc := 46) dX12_enter_46 rfl rfl ?_
        have z9_47 : J_42 165 26 = J 165 26 := by rw [br_42 26 (by decide)]; rfl
        refine tz_cV (pc := 47) (m_enters1 hl n _ _ (by omega) 0 ((bl_42 16 (by decide) (by decide) (by decide)).trans hT.2.2.2.1.2.1) (by decide) (by show 0 ≤ J_42 165 26 ∧ J_42 165 26 < 12; omega)) vl_X12_310 dX12_enter_47 o_164 rfl rfl (Nat.le_of_ble_eq_true rfl) ⟨(Nat.le_of_ble_eq_true rfl), (Nat.le_of_ble_eq_true rfl)⟩ rfl rfl (Nat.le_of_ble_eq_true rfl) (Nat.le_of_ble_eq_true rfl) (fun r9 J_47 hq9 => ?_)
        obtain ⟨rfl, hr_47⟩ := hq9
        have a_47 : AM J_47 J m m := by rw [← hr_47]; exact AM.enter a_42 b3_42.1 (by omega) (by omega)
        have c26_47 : J_47 165 26 = J 165 26 + 1 := by rw [← hr_47, ← z9_47]; exact zup_at
        refine tz_aload_n (pc := 50) dX12_enter_50 rfl rfl ?_
        refine tz_aload_n (pc := 51) dX12_enter_51 rfl rfl ?_
        refine tz_fR (pc := 52) dX12_enter_52 fl_X12_9 r_164_0 ?_
        refine tz_bipush (pc := 55) dX12_enter_55 (by decide) ?_
        refine tz_aL (pc := 57) (z := 26) (v := (J_47 165 26)) dX12_enter_57 a_165 rfl (by decide) rfl (fun r_57 => ?_)
        refine tz_cV (pc := 58) (m_keeps hl n _ _ (by omega) (a_47).2.2.2.1.1.1 (a_47).2.2.2.1.1.2) vl_X12_403 dX12_enter_58 o_164 rfl rfl (Nat.le_of_ble_eq_true rfl) ⟨(Nat.le_of_ble_eq_true rfl), (Nat.le_of_ble_eq_true rfl)⟩ rfl rfl (Nat.le_of_ble_eq_true rfl) (Nat.le_of_ble_eq_true rfl) (fun r9 J_58 hq9 => ?_)
        obtain ⟨z_58, rfl, hz_58, k_58⟩ := hq9
        exact tz_iret (pc := 61) (z := z_58) dX12_enter_61 rfl (Nat.le_of_ble_eq_true rfl) (Nat.le_of_ble_eq_true rfl) ⟨Nat.le_refl _, Nat.le_add_right _ _⟩ ⟨_, rfl, (by omega), (AE (AM.keep a_47 k_58) bi_42 (mact_end bt_42 bs_42 bm_42 ba_42 bu_42 bn_42 bf_42 (MOP.r5 (by rw [← hr_47]; exact zen_of) (fun k a => by rw [← hr_47]; show (if k = 26 then J_42 165 26 + 1 else if k = 27 + J_42 165 26 then x else J_42 165 k) = J_42 165 k; rw [if_neg (by omega), if_neg (by omega)])) (show tb0 J_47 = zen (tbz J) 0 x from by rw [← hr_47, tb0_en (by omega), bt_42]) (by show (if (0 : Int) = 26 then tbz J 165 26 + 1 else if (0 : Int) = 27 + tbz J 165 26 then x else tbz J 165 0) ≤ 400; rw [if_neg (by decide), if_neg (by have e9 : tbz J 165 26 = J 165 26 := rfl; omega), bs_42]; exact bm_42) (fun _ => c26_47) k_58) (by omega))⟩
      · refine tz_aload_n (pc := 34) dX12_enter_34 rfl rfl ?_
        refine tz_iconst (pc := 35) dX12_enter_35 ?_
        refine tz_iconst (pc := 36) dX12_enter_36 ?_
        refine tz_cV (pc := 37) (m_refuses hl n _ _ _ (by decide) (by decide) (by decide)) vl_X12_391 dX12_enter_37 o_164 rfl rfl (Nat.le_of_ble_eq_true rfl) ⟨(Nat.le_of_ble_eq_true rfl), (Nat.le_of_ble_eq_true rfl)⟩ rfl rfl (Nat.le_of_ble_eq_true rfl) (Nat.le_of_ble_eq_true rfl) (fun r9 J_37 hq9 => ?_)
        obtain ⟨z_37, rfl, hz_37, rfl, f_37⟩ := hq9
        have y_37 : MZ J_37 J := MZ.tr (MZ.up (k := 8) MZ.rf (by decide)) (MZ.c f_37 (by decide))
        exact tz_iret (pc := 40) (z := (-1)) dX12_enter_40 rfl (Nat.le_of_ble_eq_true rfl) (Nat.le_of_ble_eq_true rfl) ⟨Nat.le_refl _, Nat.le_add_right _ _⟩ ⟨_, rfl, (by decide), ⟨MQr.z hI y_37, MFI.z y_37, Or.inr ⟨by omega, rfl, MBT.z hI y_37, u9.z y_37⟩⟩⟩

theorem lv_st {J1 J0 : zJ} {z k : Int} (hz : z ≤ k) (hk : 0 ≤ k) (x : ∀ q, ¬ q = 26 → J1 165 q = if 27 + z ≤ q ∧ q < 27 + k then J0 165 (q + 1) else J0 165 q) : ∀ q, ¬ q = 26 → zup J1 165 (27 + k) (J1 165 (27 + k + 1)) 165 q = if 27 + z ≤ q ∧ q < 27 + (k + 1) then J0 165 (q + 1) else J0 165 q := fun q h => by
  by_cases e : q = 27 + k
  · subst e
    rw [zup_at, if_pos (by omega), x _ (by omega), if_neg (by omega)]
  · rw [zup_ne e, x q h]
    by_cases r : 27 + z ≤ q ∧ q < 27 + k
    · rw [if_pos r, if_pos (by omega)]
    · rw [if_neg r, if_neg (by omega)]
set_option maxHeartbeats 4000000 in
set_option maxRecDepth 100000 in
theorem v_qleave {l : Launch} {G : tb_G} (hl : l.stackTraces = false) (n : Nat) (J : zJ) (x : Int) (hr_x : -2147483648 ≤ x ∧ x < 2147483648) (m : Int) (pn : Int) (RR : Int → Int → Int) (hI : MI J m) (u9 : MUr J pn RR) : tz_Ok l G M_X12_leave 3 0 0 [.ref 164, zi x] n J (zqi (fun z J' => MQr J' J ∧ MFI J' J ∧ ((((0 ≤ x ∧ x < J 165 0) ∧ eyM J x < J 165 26) ∧ MED (tbz J) pn RR ((zlv (tbz J) (eyM J x), J 165 26 - 1)) J' z) ∨ (¬ ((0 ≤ x ∧ x < J 165 0) ∧ eyM J x < J 165 26) ∧ z = -1 ∧ MBT J' (tbz J) ∧ MUr J' pn RR)))) zN := by
  refine tz_Ok.of hl (by decide +kernel) rfl (tb_c1 rfl) (Nat.le_of_ble_eq_true rfl) ?_
  show tz_At l G M_X12_leave (tb_rm 3 0 0) none (tb_ZM G 0 0 (zQ n 0 (zqi (fun z J' => MQr J' J ∧ MFI J' J ∧ ((((0 ≤ x ∧ x < J 165 0) ∧ eyM J x < J 165 26) ∧ MED (tbz J) pn RR ((zlv (tbz J) (eyM J x), J 165 26 - 1)) J' z) ∨ (¬ ((0 ≤ x ∧ x < J 165 0) ∧ eyM J x < J 165 26) ∧ z = -1 ∧ MBT J' (tbz J) ∧ MUr J' pn RR))))) (zX n 0 zN)) 0 0 n J 0 [some (.ref 164), some (zi x), none, none] []
  have hT := hI.told
  have hW := hI.row
  have hM := hI.1
  have hL := hI.2.1
  refine tz_aload_n (pc := 0) dX12_leave_0 rfl rfl ?_
  refine tz_iconst (pc := 1) dX12_leave_1 ?_
  refine tz_pI (pc := 2) (kz := 8) dX12_leave_2 fl_X12_68 i_164_8 rfl rfl (by decide) ?_
  refine tz_aload_n (pc := 5) dX12_leave_5 rfl rfl ?_
  refine tz_iload_n (pc := 6) dX12_leave_6 rfl rfl ?_
  refine tz_cV (pc := 7) (m_isTerm hl n _ _ (by omega) (by rw [(show ((zup J 164 8 0) : zJ) 165 0 = (J 165 0) from rfl)]; omega)) vl_X12_376 dX12_leave_7 o_164 rfl rfl (Nat.le_of_ble_eq_true rfl) ⟨(Nat.le_of_ble_eq_true rfl), (Nat.le_of_ble_eq_true rfl)⟩ rfl rfl (Nat.le_of_ble_eq_true rfl) (Nat.le_of_ble_eq_true rfl) (fun r9 J_7 hq9 => ?_)
  obtain ⟨z_7, rfl, hz_7, rfl, ht_7⟩ := hq9
  rw [(show ((zup J 164 8 0) : zJ) 165 0 = (J 165 0) from rfl)] at ht_7
  refine tz_if_eq (pc := 10) (tgt := 21) dX12_leave_10 (by decide) (by omega) (fun h_10 => ?_) (fun h_10 => ?_)
  · refine tz_iconst (pc := 21) dX12_leave_21 ?_
    refine tz_istore_n (pc := 22) (L2 := [_, _, _, _]) dX12_leave_22 rfl (by decide) rfl ?_
    refine tz_iload_n (pc := 23) dX12_leave_23 rfl rfl ?_
    refine tz_iconst (pc := 24) dX12_leave_24 ?_
    refine tz_icmp_neF (pc := 25) (tgt := 35) (by decide) dX12_leave_25 (by decide) (by decide) (by decide) ?_
    refine tz_aload_n (pc := 28) dX12_leave_28 rfl rfl ?_
    refine tz_iconst (pc := 29) dX12_leave_29 ?_
    refine tz_iconst (pc := 30) dX12_leave_30 ?_
    refine tz_cV (pc := 31) (m_refuses hl n _ _ _ (by decide) (by decide) (by decide)) vl_X12_391 dX12_leave_31 o_164 rfl rfl (Nat.le_of_ble_eq_true rfl) ⟨(Nat.le_of_ble_eq_true rfl), (Nat.le_of_ble_eq_true rfl)⟩ rfl rfl (Nat.le_of_ble_eq_true rfl) (Nat.le_of_ble_eq_true rfl) (fun r9 J_31 hq9 => ?_)
    obtain ⟨z_31, rfl, hz_31, rfl, f_31⟩ := hq9
    have y_31 : MZ J_31 J := MZ.tr (MZ.up (k := 8) MZ.rf (by decide)) (MZ.c f_31 (by decide))
    exact tz_iret (pc := 34) (z := (-1)) dX12_leave_34 rfl (Nat.le_of_ble_eq_true rfl) (Nat.le_of_ble_eq_true rfl) ⟨Nat.le_refl _, Nat.le_add_right _ _⟩ ⟨_, rfl, (by decide), ⟨MQr.z hI y_31, MFI.z y_31, Or.inr ⟨by omega, rfl, MBT.z hI y_31, u9.z y_31⟩⟩⟩
  · refine tz_aload_n (pc := 13) dX12_leave_13 rfl rfl ?_
    refine tz_iload_n (pc := 14) dX12_leave_14 rfl rfl ?_
    have h16_15 : ((zup J 164 8 0) : zJ) 164 16 = 0 := hT.2.2.2.1.2.1
    refine tz_cV (pc := 15) (x_entryOf0 hl n _ _ (by omega) h16_15 hL.2.2.1.1) vl_X12_307 dX12_leave_15 o_164 rfl rfl (Nat.le_of_ble_eq_true rfl) ⟨(Nat.le_of_ble_eq_true rfl), (Nat.le_of_ble_eq_true rfl)⟩ rfl rfl (Nat.le_of_ble_eq_true rfl) (Nat.le_of_ble_eq_true rfl) (fun r9 J_15 hq9 => ?_)
    obtain ⟨ze, rfl, hz_15, rfl, he9⟩ := hq9
    have he7 : (0 ≤ ze ∧ ze < J 165 26 ∧ eyM J x = ze) ∨ (ze = -1 ∧ eyM J x = J 165 26) := he9
    refine tz_goto (pc := 18) (tgt := 22) dX12_leave_18 (by decide) ?_
    refine tz_istore_n (pc := 22) (L2 := [_, _, _, _]) dX12_leave_22 rfl (by decide) rfl ?_
    refine tz_iload_n (pc := 23) dX12_leave_23 rfl rfl ?_
    refine tz_iconst (pc := 24) dX12_leave_24 ?_
    refine tz_icmp_ne (pc := 25) (tgt := 35) dX12_leave_25 (by decide) (by omega) (by decide) (fun h_25 => ?_) (fun h_25 => ?_)
    · refine tz_aload_n (pc := 35) dX12_leave_35 rfl rfl ?_
      refine tz_cV (pc := 36) (m_begins hl n _) vl_X12_400 dX12_leave_36 o_164 rfl rfl (Nat.le_of_ble_eq_true rfl) ⟨(Nat.le_of_ble_eq_true rfl), (Nat.le_of_ble_eq_true rfl)⟩ rfl rfl (Nat.le_of_ble_eq_true rfl) (Nat.le_of_ble_eq_true rfl) (fun r9 J_36 hq9 => ?_)
      obtain ⟨rfl, hj_36⟩ := hq9
      have a_36 : AM J_36 J m m := by rw [← hj_36]; exact AM.begin (hI.z (MZ.up (k := 8) MZ.rf (by decide))) ⟨MZ.lo (MZ.up (k := 8) MZ.rf (by decide)), SC.z (MZ.up (k := 8) MZ.rf (by decide))⟩
      have br_36 : ∀ k, (k < 63 ∨ 126 ≤ k) → J_36 165 k = ((zup J 164 8 0) : zJ) 165 k := fun k hk => by rw [← hj_36]; exact zbg_r hk
      have bl_36 : ∀ k, ¬ k = 34 → ¬ k = 33 → ¬ k = 21 → J_36 164 k = ((zup J 164 8 0) : zJ) 164 k := fun k u v w => by rw [← hj_36]; exact zbg_f u v w
      have bo_36 : zOf (zbut [164, 165]) J_36 (zup J 164 8 0) := by rw [← hj_36]; exact zbg_of
      have b3_36 : J_36 164 21 = 0 ∧ J_36 164 33 = 0 ∧ J_36 164 34 = 0 := by rw [← hj_36]; exact ⟨rfl, rfl, rfl⟩
      have s9_36 : J_36 164 9 = J 164 9 := (bl_36 9 (by decide) (by decide) (by decide)).trans ((MZ.up (k := 8) MZ.rf (by decide)).2 9 (by decide) (by decide))
      obtain ⟨⟨bt_36, bs_36, bm_36, ba_36⟩, bu_36, bn_36, bf_36, bi_36⟩ := mbeg hI (MZ.up (k := 8) MZ.rf (by decide)) hj_36 u9
      refine tz_aload_n (pc := 39) dX12_leave_39 rfl rfl ?_
      refine tz_fR (pc := 40) dX12_leave_40 fl_X12_9 r_164_0 ?_
      refine tz_bipush (pc := 43) dX12_leave_43 (by decide) ?_
      refine tz_dup2 (pc := 45) dX12_leave_45 rfl rfl ?_
      refine tz_aL (pc := 46) (z := 26) (v := (J 165 26)) dX12_leave_46 a_165 rfl (by decide) (Eq.trans (br_36 26 (by omega)) rfl) (fun r_46 => ?_)
      refine tz_iconst (pc := 47) dX12_leave_47 ?_
      refine tz_isub (pc := 48) (v := (J 165 26) - 1) dX12_leave_48 rfl ?_
      refine tz_aS (pc := 49) (z := 26) dX12_leave_49 a_165 rfl (by decide) (by omega) ?_
      refine tz_iload_n (pc := 50) dX12_leave_50 rfl rfl ?_
      refine tz_istore_n (pc := 51) (L2 := [_, _, _, _]) dX12_leave_51 rfl (by decide) rfl ?_
      have loop52 : ∀ (f9 : Nat) (k : Int) (J1 : zJ), ((12 - k).toNat) < f9 → (ze ≤ k ∧ k ≤ J 165 26 - 1) → (zOf (zbut [165]) J1 J_36) → (∀ q, (q < 26 ∨ 38 < q) → J1 165 q = J_36 165 q) → (J1 165 26 = J 165 26 - 1) → (∀ v, 0 ≤ v → v < J 165 26 → 0 ≤ J1 165 (27 + v) ∧ J1 165 (27 + v) < m) → (∀ q, ¬ q = 26 → J1 165 q = if 27 + ze ≤ q ∧ q < 27 + k then J_36 165 (q + 1) else J_36 165 q) → tz_At l G M_X12_leave (tb_rm 3 0 0) none (tb_ZM G 0 0 (zQ n 0 (zqi (fun z J' => MQr J' J ∧ MFI J' J ∧ ((((0 ≤ x ∧ x < J 165 0) ∧ eyM J x < J 165 26) ∧ MED (tbz J) pn RR ((zlv (tbz J) (eyM J x), J 165 26 - 1)) J' z) ∨ (¬ ((0 ≤ x ∧ x < J 165 0) ∧ eyM J x < J 165 26) ∧ z = -1 ∧ MBT J' (tbz J) ∧ MUr J' pn RR))))) (zX n 0 zN)) 0 0 n J1 52 [some (.ref 164), some (zi x), some (zi ze), some (zi k)] [] := by
        intro f9
        induction f9 with
        | zero => intro k J1 hm9; exact absurd hm9 (Nat.not_lt_zero _)
        | succ f9 ih52 =>
          intro k J1 hm52 hk f1 e1 c1 h1 x1
          refine tz_iload_n (pc := 52) dX12_leave_52 rfl rfl ?_
          refine tz_aload_n (pc := 53) dX12_leave_53 rfl rfl ?_
          refine tz_fR (pc := 54) dX12_leave_54 fl_X12_9 r_164_0 ?_
          refine tz_bipush (pc := 57) dX12_leave_57 (by decide) ?_
          refine tz_aL (pc := 59) (z := 26) (v := (J 165 26 - 1)) dX12_leave_59 a_165 rfl (by decide) c1 (fun r_59 => ?_)
          refine tz_icmp_ge (pc := 60) (tgt := 89) dX12_leave_60 (by decide) (by omega) (by omega) (fun h_60 => ?_) (fun h_60 => ?_)
          · refine tz_aload_n (pc := 89) dX12_leave_89 rfl rfl ?_
            refine tz_aload_n (pc := 90) dX12_leave_90 rfl rfl ?_
            refine tz_fR (pc := 91) dX12_leave_91 fl_X12_9 r_164_0 ?_
            refine tz_bipush (pc := 94) dX12_leave_94 (by decide) ?_
            refine tz_aL (pc := 96) (z := 26) (v := (J 165 26 - 1)) dX12_leave_96 a_165 rfl (by decide) c1 (fun r_96 => ?_)
            refine tz_cV (pc := 97) (m_keeps hl n _ _ (by omega) ((AM.leaves a_36 f1 e1 (by omega) (fun v p q => h1 v p (by omega)))).2.2.2.1.1.1 ((AM.leaves a_36 f1 e1 (by omega) (fun v p q => h1 v p (by omega)))).2.2.2.1.1.2) vl_X12_403 dX12_leave_97 o_164 rfl rfl (Nat.le_of_ble_eq_true rfl) ⟨(Nat.le_of_ble_eq_true rfl), (Nat.le_of_ble_eq_true rfl)⟩ rfl rfl (Nat.le_of_ble_eq_true rfl) (Nat.le_of_ble_eq_true rfl) (fun r9 J_97 hq9 => ?_)
            obtain ⟨z_97, rfl, hz_97, k_97⟩ := hq9
            exact tz_iret (pc := 100) (z := z_97) dX12_leave_100 rfl (Nat.le_of_ble_eq_true rfl) (Nat.le_of_ble_eq_true rfl) ⟨Nat.le_refl _, Nat.le_add_right _ _⟩ ⟨_, rfl, (by omega), (AE (AM.keep (AM.leaves a_36 f1 e1 (by omega) (fun v p q => h1 v p (by omega))) k_97) bi_36 (mact_end bt_36 bs_36 bm_36 ba_36 bu_36 bn_36 bf_36 (MOP.r5 f1 (fun k a => e1 k (by omega))) (show tb0 J1 = zlv (tbz J) (eyM J x) from by have b26 : J_36 165 26 = J 165 26 := (br_36 26 (by decide)).trans rfl; have ez : eyM J x = ze := (by omega); rw [ez, ← bt_36]; exact tb0_lv f1 (by omega) (by omega) (fun q a b c => by rw [x1 q c, show k = J_36 165 26 - 1 from by omega])) (by show (if (0 : Int) = 26 then tbz J 165 26 - 1 else if 27 + eyM J x ≤ 0 ∧ (0 : Int) < 27 + (tbz J 165 26 - 1) then tbz J 165 (0 + 1) else tbz J 165 0) ≤ 400; rw [if_neg (by decide), if_neg (by omega), bs_36]; exact bm_36) (fun _ => rfl) k_97) (by omega))⟩
          · have hn9 := h1 (k + 1) (by omega) (by omega)
            rw [show 27 + (k + 1) = 27 + k + 1 by omega] at hn9
            refine tz_aload_n (pc := 63) dX12_leave_63 rfl rfl ?_
            refine tz_fR (pc := 64) dX12_leave_64 fl_X12_9 r_164_0 ?_
            refine tz_bipush (pc := 67) dX12_leave_67 (by decide) ?_
            refine tz_iload_n (pc := 69) dX12_leave_69 rfl rfl ?_
            refine tz_iadd (pc := 70) (v := 27 + k) dX12_leave_70 rfl ?_
            refine tz_aload_n (pc := 71) dX12_leave_71 rfl rfl ?_
            refine tz_fR (pc := 72) dX12_leave_72 fl_X12_9 r_164_0 ?_
            refine tz_bipush (pc := 75) dX12_leave_75 (by decide) ?_
            refine tz_iload_n (pc := 77) dX12_leave_77 rfl rfl ?_
            refine tz_iadd (pc := 78) (v := 27 + k) dX12_leave_78 rfl ?_
            refine tz_iconst (pc := 79) dX12_leave_79 ?_
            refine tz_iadd (pc := 80) (v := (27 + k) + 1) dX12_leave_80 rfl ?_
            refine tz_aL (pc := 81) (z := ((27 + k) + 1)) (v := (J1 165 ((27 + k) + 1))) dX12_leave_81 a_165 rfl (by omega) rfl (fun r_81 => ?_)
            refine tz_aS (pc := 82) (z := (27 + k)) dX12_leave_82 a_165 rfl (by omega) (by omega) ?_
            refine tz_iinc (pc := 83) (z := k + 1) (L2 := [_, _, _, _]) dX12_leave_83 rfl (by omega) rfl ?_
            refine tz_goto (pc := 86) (tgt := 52) dX12_leave_86 (by decide) ?_
            exact ih52 (k + 1) _ (by omega) (by omega) (zOf.up rfl f1) (fun q z => (zup_ne (by omega)).trans (e1 q z)) ((zup_ne (by omega)).trans c1) (fun v p q => (Decidable.em (v = k)).elim (fun e => by rw [e, zup_at]; exact hn9) (fun e => by rw [zup_ne (by omega)]; exact h1 v p q)) (lv_st (by omega) (by omega) x1)
      exact loop52 _ _ _ (Nat.lt_succ_self _) (by omega) (zOf.up rfl zOf.rf) (fun q z => zup_ne (by omega)) zup_at (fun v p q => by rw [zup_ne (by omega), br_36 _ (by omega)]; exact hL.2.2.1.2 v p q) (fun q z => by rw [zup_ne z, if_neg (by omega)])
    · refine tz_aload_n (pc := 28) dX12_leave_28 rfl rfl ?_
      refine tz_iconst (pc := 29) dX12_leave_29 ?_
      refine tz_iconst (pc := 30) dX12_leave_30 ?_
      refine tz_cV (pc := 31) (m_refuses hl n _ _ _ (by decide) (by decide) (by decide)) vl_X12_391 dX12_leave_31 o_164 rfl rfl (Nat.le_of_ble_eq_true rfl) ⟨(Nat.le_of_ble_eq_true rfl), (Nat.le_of_ble_eq_true rfl)⟩ rfl rfl (Nat.le_of_ble_eq_true rfl) (Nat.le_of_ble_eq_true rfl) (fun r9 J_31 hq9 => ?_)
      obtain ⟨z_31, rfl, hz_31, rfl, f_31⟩ := hq9
      have y_31 : MZ J_31 J := MZ.tr (MZ.up (k := 8) MZ.rf (by decide)) (MZ.c f_31 (by decide))
      exact tz_iret (pc := 34) (z := (-1)) dX12_leave_34 rfl (Nat.le_of_ble_eq_true rfl) (Nat.le_of_ble_eq_true rfl) ⟨Nat.le_refl _, Nat.le_add_right _ _⟩ ⟨_, rfl, (by decide), ⟨MQr.z hI y_31, MFI.z y_31, Or.inr ⟨by omega, rfl, MBT.z hI y_31, u9.z y_31⟩⟩⟩

set_option maxHeartbeats 4000000 in
set_option maxRecDepth 100000 in
theorem v_qrules {l : Launch} {G : tb_G} (hl : l.stackTraces = false) (n : Nat) (J : zJ) (x : Int) (y : Int) (hr_x : -2147483648 ≤ x ∧ x < 2147483648) (hr_y : -2147483648 ≤ y ∧ y < 2147483648) (m : Int) (pn : Int) (RR : Int → Int → Int) (hI : MI J m) (u9 : MUr J pn RR) (hw : ∀ k, 0 ≤ k → k < J 164 9 → 1 ≤ J 171 (0 + k) ∧ J 171 (0 + k) ≤ 9) : tz_Ok l G M_X12_rules 21 0 0 [.ref 164, zi x, zi y] n J (zqi (fun z J' => MQr J' J ∧ MFI J' J ∧ (((((0 ≤ x ∧ x < J 165 0) ∧ (0 ≤ y ∧ y < J 165 0)) ∧ J 165 9 < 8 ∧ mru J 0 0 x y) ∧ MED (tbz J) pn RR ((zru (tbz J) x y, J 165 9 + 1)) J' z) ∨ (¬ (((0 ≤ x ∧ x < J 165 0) ∧ (0 ≤ y ∧ y < J 165 0)) ∧ J 165 9 < 8 ∧ mru J 0 0 x y) ∧ z = -1 ∧ MBT J' (tbz J) ∧ MUr J' pn RR)))) zN := by
  refine tz_Ok.of hl (by decide +kernel) rfl (tb_c1 rfl) (Nat.le_of_ble_eq_true rfl) ?_
  show tz_At l G M_X12_rules (tb_rm 21 0 0) none (tb_ZM G 0 0 (zQ n 0 (zqi (fun z J' => MQr J' J ∧ MFI J' J ∧ (((((0 ≤ x ∧ x < J 165 0) ∧ (0 ≤ y ∧ y < J 165 0)) ∧ J 165 9 < 8 ∧ mru J 0 0 x y) ∧ MED (tbz J) pn RR ((zru (tbz J) x y, J 165 9 + 1)) J' z) ∨ (¬ (((0 ≤ x ∧ x < J 165 0) ∧ (0 ≤ y ∧ y < J 165 0)) ∧ J 165 9 < 8 ∧ mru J 0 0 x y) ∧ z = -1 ∧ MBT J' (tbz J) ∧ MUr J' pn RR))))) (zX n 0 zN)) 0 0 n J 0 [some (.ref 164), some (zi x), some (zi y)] []
  have hT := hI.told
  have hW := hI.row
  have hM := hI.1
  have hL := hI.2.1
  refine tz_aload_n (pc := 0) dX12_rules_0 rfl rfl ?_
  refine tz_iconst (pc := 1) dX12_rules_1 ?_
  refine tz_pI (pc := 2) (kz := 8) dX12_rules_2 fl_X12_68 i_164_8 rfl rfl (by decide) ?_
  refine tz_aload_n (pc := 5) dX12_rules_5 rfl rfl ?_
  refine tz_iload_n (pc := 6) dX12_rules_6 rfl rfl ?_
  refine tz_cV (pc := 7) (m_isTerm hl n _ _ (by omega) (by rw [(show ((zup J 164 8 0) : zJ) 165 0 = (J 165 0) from rfl)]; omega)) vl_X12_376 dX12_rules_7 o_164 rfl rfl (Nat.le_of_ble_eq_true rfl) ⟨(Nat.le_of_ble_eq_true rfl), (Nat.le_of_ble_eq_true rfl)⟩ rfl rfl (Nat.le_of_ble_eq_true rfl) (Nat.le_of_ble_eq_true rfl) (fun r9 J_7 hq9 => ?_)
  obtain ⟨z_7, rfl, hz_7, rfl, ht_7⟩ := hq9
  rw [(show ((zup J 164 8 0) : zJ) 165 0 = (J 165 0) from rfl)] at ht_7
  refine tz_if_eq (pc := 10) (tgt := 42) dX12_rules_10 (by decide) (by omega) (fun h_10 => ?_) (fun h_10 => ?_)
  · refine tz_aload_n (pc := 42) dX12_rules_42 rfl rfl ?_
    refine tz_iconst (pc := 43) dX12_rules_43 ?_
    refine tz_iconst (pc := 44) dX12_rules_44 ?_
    refine tz_cV (pc := 45) (m_refuses hl n _ _ _ (by decide) (by decide) (by decide)) vl_X12_391 dX12_rules_45 o_164 rfl rfl (Nat.le_of_ble_eq_true rfl) ⟨(Nat.le_of_ble_eq_true rfl), (Nat.le_of_ble_eq_true rfl)⟩ rfl rfl (Nat.le_of_ble_eq_true rfl) (Nat.le_of_ble_eq_true rfl) (fun r9 J_45 hq9 => ?_)
    obtain ⟨z_45, rfl, hz_45, rfl, f_45⟩ := hq9
    have y_45 : MZ J_45 J := MZ.tr (MZ.up (k := 8) MZ.rf (by decide)) (MZ.c f_45 (by decide))
    exact tz_iret (pc := 48) (z := (-1)) dX12_rules_48 rfl (Nat.le_of_ble_eq_true rfl) (Nat.le_of_ble_eq_true rfl) ⟨Nat.le_refl _, Nat.le_add_right _ _⟩ ⟨_, rfl, (by decide), ⟨MQr.z hI y_45, MFI.z y_45, Or.inr ⟨fun q => by first | omega | exact absurd q.2.2 ((hh8.resolve_left (fun k => by have := k.1; omega)).2), rfl, MBT.z hI y_45, u9.z y_45⟩⟩⟩
  · refine tz_aload_n (pc := 13) dX12_rules_13 rfl rfl ?_
    refine tz_iload_n (pc := 14) dX12_rules_14 rfl rfl ?_
    refine tz_cV (pc := 15) (m_isTerm hl n _ _ (by omega) (by rw [(show ((zup J 164 8 0) : zJ) 165 0 = (J 165 0) from rfl)]; omega)) vl_X12_376 dX12_rules_15 o_164 rfl rfl (Nat.le_of_ble_eq_true rfl) ⟨(Nat.le_of_ble_eq_true rfl), (Nat.le_of_ble_eq_true rfl)⟩ rfl rfl (Nat.le_of_ble_eq_true rfl) (Nat.le_of_ble_eq_true rfl) (fun r9 J_15 hq9 => ?_)
    obtain ⟨z_15, rfl, hz_15, rfl, ht_15⟩ := hq9
    rw [(show ((zup J 164 8 0) : zJ) 165 0 = (J 165 0) from rfl)] at ht_15
    refine tz_if_eq (pc := 18) (tgt := 42) dX12_rules_18 (by decide) (by omega) (fun h_18 => ?_) (fun h_18 => ?_)
    · refine tz_aload_n (pc := 42) dX12_rules_42 rfl rfl ?_
      refine tz_iconst (pc := 43) dX12_rules_43 ?_
      refine tz_iconst (pc := 44) dX12_rules_44 ?_
      refine tz_cV (pc := 45) (m_refuses hl n _ _ _ (by decide) (by decide) (by decide)) vl_X12_391 dX12_rules_45 o_164 rfl rfl (Nat.le_of_ble_eq_true rfl) ⟨(Nat.le_of_ble_eq_true rfl), (Nat.le_of_ble_eq_true rfl)⟩ rfl rfl (Nat.le_of_ble_eq_true rfl) (Nat.le_of_ble_eq_true rfl) (fun r9 J_45 hq9 => ?_)
      obtain ⟨z_45, rfl, hz_45, rfl, f_45⟩ := hq9
      have y_45 : MZ J_45 J := MZ.tr (MZ.up (k := 8) MZ.rf (by decide)) (MZ.c f_45 (by decide))
      exact tz_iret (pc := 48) (z := (-1)) dX12_rules_48 rfl (Nat.le_of_ble_eq_true rfl) (Nat.le_of_ble_eq_true rfl) ⟨Nat.le_refl _, Nat.le_add_right _ _⟩ ⟨_, rfl, (by decide), ⟨MQr.z hI y_45, MFI.z y_45, Or.inr ⟨fun q => by first | omega | exact absurd q.2.2 ((hh8.resolve_left (fun k => by have := k.1; omega)).2), rfl, MBT.z hI y_45, u9.z y_45⟩⟩⟩
    · refine tz_aload_n (pc := 21) dX12_rules_21 rfl rfl ?_
      refine tz_fR (pc := 22) dX12_rules_22 fl_X12_9 r_164_0 ?_
      refine tz_bipush (pc := 25) dX12_rules_25 (by decide) ?_
      refine tz_aL (pc := 27) (z := 9) (v := (J 165 9)) dX12_rules_27 a_165 rfl (by decide) rfl (fun r_27 => ?_)
      refine tz_bipush (pc := 28) dX12_rules_28 (by decide) ?_
      refine tz_icmp_eq (pc := 30) (tgt := 42) dX12_rules_30 (by decide) (by omega) (by decide) (fun h_30 => ?_) (fun h_30 => ?_)
      · refine tz_aload_n (pc := 42) dX12_rules_42 rfl rfl ?_
        refine tz_iconst (pc := 43) dX12_rules_43 ?_
        refine tz_iconst (pc := 44) dX12_rules_44 ?_
        refine tz_cV (pc := 45) (m_refuses hl n _ _ _ (by decide) (by decide) (by decide)) vl_X12_391 dX12_rules_45 o_164 rfl rfl (Nat.le_of_ble_eq_true rfl) ⟨(Nat.le_of_ble_eq_true rfl), (Nat.le_of_ble_eq_true rfl)⟩ rfl rfl (Nat.le_of_ble_eq_true rfl) (Nat.le_of_ble_eq_true rfl) (fun r9 J_45 hq9 => ?_)
        obtain ⟨z_45, rfl, hz_45, rfl, f_45⟩ := hq9
        have y_45 : MZ J_45 J := MZ.tr (MZ.up (k := 8) MZ.rf (by decide)) (MZ.c f_45 (by decide))
        exact tz_iret (pc := 48) (z := (-1)) dX12_rules_48 rfl (Nat.le_of_ble_eq_true rfl) (Nat.le_of_ble_eq_true rfl) ⟨Nat.le_refl _, Nat.le_add_right _ _⟩ ⟨_, rfl, (by decide), ⟨MQr.z hI y_45, MFI.z y_45, Or.inr ⟨fun q => by first | omega | exact absurd q.2.2 ((hh8.resolve_left (fun k => by have := k.1; omega)).2), rfl, MBT.z hI y_45, u9.z y_45⟩⟩⟩
      · refine tz_aload_n (pc := 33) dX12_rules_33 rfl rfl ?_
        refine tz_iload_n (pc := 34) dX12_rules_34 rfl rfl ?_
        refine tz_iload_n (pc := 35) dX12_rules_35 rfl rfl ?_
        refine tz_cV (pc := 36) (x_isRule hl n _ _ _ (by omega) (by omega) 0 0 0 (J 164 9) m (hM.z (MZ.up (k := 8) MZ.rf (by decide))) (by omega) (by omega) hw) vl_X12_301 dX12_rules_36 o_164 rfl rfl (Nat.le_of_ble_eq_true rfl) ⟨(Nat.le_of_ble_eq_true rfl), (Nat.le_of_ble_eq_true rfl)⟩ rfl rfl (Nat.le_of_ble_eq_true rfl) (Nat.le_of_ble_eq_true rfl) (fun r9 J_36 hq9 => ?_)
        obtain ⟨zr, rfl, hz_36, rfl, hh9⟩ := hq9
        have hh8 : (zr = 1 ∧ mru J 0 0 x y) ∨ (zr = 0 ∧ ¬ mru J 0 0 x y) := hh9
        have hh7 : zr = 0 ∨ zr = 1 := hh8.elim (fun q => Or.inr q.1) (fun q => Or.inl q.1)
        refine tz_if_ne (pc := 39) (tgt := 49) dX12_rules_39 (by decide) (by omega) (fun h_39 => ?_) (fun h_39 => ?_)
        · refine tz_aload_n (pc := 49) dX12_rules_49 rfl rfl ?_
          refine tz_cV (pc := 50) (m_begins hl n _) vl_X12_400 dX12_rules_50 o_164 rfl rfl (Nat.le_of_ble_eq_true rfl) ⟨(Nat.le_of_ble_eq_true rfl), (Nat.le_of_ble_eq_true rfl)⟩ rfl rfl (Nat.le_of_ble_eq_true rfl) (Nat.le_of_ble_eq_true rfl) (fun r9 J_50 hq9 => ?_)
          obtain ⟨rfl, hj_50⟩ := hq9
          have a_50 : AM J_50 J m m := by rw [← hj_50]; exact AM.begin (hI.z (MZ.up (k := 8) MZ.rf (by decide))) ⟨MZ.lo (MZ.up (k := 8) MZ.rf (by decide)), SC.z (MZ.up (k := 8) MZ.rf (by decide))⟩
          have br_50 : ∀ k, (k < 63 ∨ 126 ≤ k) → J_50 165 k = ((zup J 164 8 0) : zJ) 165 k := fun k hk => by rw [← hj_50]; exact zbg_r hk
          have bl_50 : ∀ k, ¬ k = 34 → ¬ k = 33 → ¬ k = 21 → J_50 164 k = ((zup J 164 8 0) : zJ) 164 k := fun k u v w => by rw [← hj_50]; exact zbg_f u v w
          have bo_50 : zOf (zbut [164, 165]) J_50 (zup J 164 8 0) := by rw [← hj_50]; exact zbg_of
          have b3_50 : J_50 164 21 = 0 ∧ J_50 164 33 = 0 ∧ J_50 164 34 = 0 := by rw [← hj_50]; exact ⟨rfl, rfl, rfl⟩
          have s9_50 : J_50 164 9 = J 164 9 := (bl_50 9 (by decide) (by decide) (by decide)).trans ((MZ.up (k := 8) MZ.rf (by decide)).2 9 (by decide) (by decide))
          obtain ⟨⟨bt_50, bs_50, bm_50, ba_50⟩, bu_50, bn_50, bf_50, bi_50⟩ := mbeg hI (MZ.up (k := 8) MZ.rf (by decide)) hj_50 u9
          refine tz_aload_n (pc := 53) dX12_rules_53 rfl rfl ?_
          refine tz_iload_n (pc := 54) dX12_rules_54 rfl rfl ?_
          refine tz_iload_n (pc := 55) dX12_rules_55 rfl rfl ?_
          have z9_56 : J_50 165 9 = J 165 9 := by rw [br_50 9 (by decide)]; rfl
          refine tz_cV (pc := 56) (m_rules1 hl n _ _ _ (by omega) (by omega) 0 ((bl_50 16 (by decide) (by decide) (by decide)).trans hT.2.2.2.1.2.1) (by decide) (by show 0 ≤ J_50 165 9 ∧ J_50 165 9 < 8; omega)) vl_X12_304 dX12_rules_56 o_164 rfl rfl (Nat.le_of_ble_eq_true rfl) ⟨(Nat.le_of_ble_eq_true rfl), (Nat.le_of_ble_eq_true rfl)⟩ rfl rfl (Nat.le_of_ble_eq_true rfl) (Nat.le_of_ble_eq_true rfl) (fun r9 J_56 hq9 => ?_)
          obtain ⟨rfl, hr_56⟩ := hq9
          have a_56 : AM (zup J_56 165 40 0) J m m := by rw [← hr_56]; exact AM.rule a_50 b3_50.1 (by omega) (by omega) (by omega)
          have c9_56 : J_56 165 9 = J 165 9 + 1 := by rw [← hr_56, ← z9_56]; exact zup_at
          refine tz_aload_n (pc := 59) dX12_rules_59 rfl rfl ?_
          refine tz_fR (pc := 60) dX12_rules_60 fl_X12_9 r_164_0 ?_
          refine tz_bipush (pc := 63) dX12_rules_63 (by decide) ?_
          refine tz_iconst (pc := 65) dX12_rules_65 ?_
          refine tz_aS (pc := 66) (z := 40) dX12_rules_66 a_165 rfl (by decide) (by decide) ?_
          refine tz_aload_n (pc := 67) dX12_rules_67 rfl rfl ?_
          refine tz_aload_n (pc := 68) dX12_rules_68 rfl rfl ?_
          refine tz_fR (pc := 69) dX12_rules_69 fl_X12_9 r_164_0 ?_
          refine tz_bipush (pc := 72) dX12_rules_72 (by decide) ?_
          refine tz_aL (pc := 74) (z := 9) (v := (J_56 165 9)) dX12_rules_74 a_165 rfl (by decide) rfl (fun r_74 => ?_)
          refine tz_cV (pc := 75) (m_keeps hl n _ _ (by omega) (a_56).2.2.2.1.1.1 (a_56).2.2.2.1.1.2) vl_X12_403 dX12_rules_75 o_164 rfl rfl (Nat.le_of_ble_eq_true rfl) ⟨(Nat.le_of_ble_eq_true rfl), (Nat.le_of_ble_eq_true rfl)⟩ rfl rfl (Nat.le_of_ble_eq_true rfl) (Nat.le_of_ble_eq_true rfl) (fun r9 J_75 hq9 => ?_)
          obtain ⟨z_75, rfl, hz_75, k_75⟩ := hq9
          exact tz_iret (pc := 78) (z := z_75) dX12_rules_78 rfl (Nat.le_of_ble_eq_true rfl) (Nat.le_of_ble_eq_true rfl) ⟨Nat.le_refl _, Nat.le_add_right _ _⟩ ⟨_, rfl, (by omega), (AE (AM.keep a_56 k_75) bi_50 (mact_end bt_50 bs_50 bm_50 ba_50 bu_50 bn_50 bf_50 (MOP.r5 (by rw [← hr_56]; exact zOf.up rfl zrl_of) (fun k a => by rw [← hr_56]; show (if k = 40 then 0 else if k = 9 then J_50 165 9 + 1 else if k = 10 + 2 * J_50 165 9 + 1 then y else if k = 10 + 2 * J_50 165 9 then x else J_50 165 k) = J_50 165 k; rw [if_neg (by omega), if_neg (by omega), if_neg (by omega), if_neg (by omega)])) (show tb0 (zup J_56 165 40 0) = zru (tbz J) x y from by rw [← hr_56, tb0_up (by decide), tb0_rl (by omega), bt_50]; rfl) (by have e9 : tbz J 165 9 = J 165 9 := rfl; show (if (0 : Int) = 40 then 0 else if (0 : Int) = 9 then tbz J 165 9 + 1 else if (0 : Int) = 10 + 2 * tbz J 165 9 + 1 then y else if (0 : Int) = 10 + 2 * tbz J 165 9 then x else tbz J 165 0) ≤ 400; rw [if_neg (by decide), if_neg (by decide), if_neg (by omega), if_neg (by omega), bs_50]; exact bm_50) (fun _ => c9_56) k_75) (⟨by omega, by omega, (hh8.resolve_right (fun k => by have := k.1; omega)).2⟩))⟩
        · refine tz_aload_n (pc := 42) dX12_rules_42 rfl rfl ?_
          refine tz_iconst (pc := 43) dX12_rules_43 ?_
          refine tz_iconst (pc := 44) dX12_rules_44 ?_
          refine tz_cV (pc := 45) (m_refuses hl n _ _ _ (by decide) (by decide) (by decide)) vl_X12_391 dX12_rules_45 o_164 rfl rfl (Nat.le_of_ble_eq_true rfl) ⟨(Nat.le_of_ble_eq_true rfl), (Nat.le_of_ble_eq_true rfl)⟩ rfl rfl (Nat.le_of_ble_eq_true rfl) (Nat.le_of_ble_eq_true rfl) (fun r9 J_45 hq9 => ?_)
          obtain ⟨z_45, rfl, hz_45, rfl, f_45⟩ := hq9
          have y_45 : MZ J_45 J := MZ.tr (MZ.up (k := 8) MZ.rf (by decide)) (MZ.c f_45 (by decide))
          exact tz_iret (pc := 48) (z := (-1)) dX12_rules_48 rfl (Nat.le_of_ble_eq_true rfl) (Nat.le_of_ble_eq_true rfl) ⟨Nat.le_refl _, Nat.le_add_right _ _⟩ ⟨_, rfl, (by decide), ⟨MQr.z hI y_45, MFI.z y_45, Or.inr ⟨fun q => by first | omega | exact absurd q.2.2 ((hh8.resolve_left (fun k => by have := k.1; omega)).2), rfl, MBT.z hI y_45, u9.z y_45⟩⟩⟩

