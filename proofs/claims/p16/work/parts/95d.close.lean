/-! ===== close, exact ===== -/
theorem NRb.z {S : zJ} {β : Int → Int} {t v : Int} : NRb (zup S 164 21 v) β t ↔ NRb S β t := by
  have eo : ∀ t u, Occ (zup S 164 21 v) 0 0 t u ↔ Occ S 0 0 t u := fun t u => ⟨fun ⟨k, q⟩ => ⟨k, (occ_cg (J' := zup S 164 21 v) (J := S) rfl rfl rfl k t u).1 q⟩, fun ⟨k, q⟩ => ⟨k, (occ_cg (J' := zup S 164 21 v) (J := S) rfl rfl rfl k t u).2 q⟩⟩
  constructor
  · rintro ⟨rk, P, h1, h2, h3⟩
    exact ⟨rk, P, h1, fun v o => h2 v ((eo t v).2 o), fun v hv p b u o => h3 v hv p b u ((eo _ u).2 o)⟩
  · rintro ⟨rk, P, h1, h2, h3⟩
    exact ⟨rk, P, h1, fun v o => h2 v ((eo t v).1 o), fun v hv p b u o => h3 v hv p b u ((eo _ u).1 o)⟩
theorem bO_r {J S : zJ} (h : RW (J 19) (S 165)) : ∀ v, 0 ≤ v → v < 8 → bO S v = J 19 (7 + v) := fun v a b => by
  have := h.2.2.2.2 v a b
  unfold bO
  omega
set_option maxHeartbeats 4000000 in
set_option maxRecDepth 100000 in
theorem v_close {l : Launch} {G : tb_G} (hl : l.stackTraces = false) (n : Nat) (J : zJ) (t : Int) (hr_t : -2147483648 ≤ t ∧ t < 2147483648) (m : Int) (S : zJ) (pn : Int) (RR : Int → Int → Int) (hI : CI J m) (h9 : J 145 10 < 1000000000) (cc : CAL J S pn RR) (h21 : S 164 21 = 0) : tz_Ok l G M_X11_close 36 0 0 [.ref 0, zi t] n J (zqi (fun z J' => CQ J' J ∧ (((0 ≤ t ∧ t < J 6 12) ∧ NRb S (bO S) t ∧ ED S pn RR (cloF S t) J' z) ∨ ((0 ≤ t ∧ t < J 6 12) ∧ ¬ NRb S (bO S) t ∧ z = -2 ∧ CAL J' S pn RR) ∨ (¬ (0 ≤ t ∧ t < J 6 12) ∧ z = -1 ∧ CAL J' S pn RR)))) zN := by
  refine tz_Ok.of hl (by decide +kernel) rfl (tb_c1 rfl) (Nat.le_of_ble_eq_true rfl) ?_
  show tz_At l G M_X11_close (tb_rm 36 0 0) none (tb_ZM G 0 0 (zQ n 0 (zqi (fun z J' => CQ J' J ∧ (((0 ≤ t ∧ t < J 6 12) ∧ NRb S (bO S) t ∧ ED S pn RR (cloF S t) J' z) ∨ ((0 ≤ t ∧ t < J 6 12) ∧ ¬ NRb S (bO S) t ∧ z = -2 ∧ CAL J' S pn RR) ∨ (¬ (0 ≤ t ∧ t < J 6 12) ∧ z = -1 ∧ CAL J' S pn RR))))) (zX n 0 zN)) 0 0 n J 0 [some (.ref 0), some (zi t)] []
  have hC := hI.1.1.1
  have hm := hI.1.1.2.1
  have hL := hI.1.1.2.2
  have hb := hC.told
  have wb := cc.2.1.b hL
  refine tz_aload_n (pc := 0) dX11_close_0 rfl rfl ?_
  refine tz_fR (pc := 1) dX11_close_1 fl_X11_29 r_0_1 ?_
  refine tz_fR (pc := 4) dX11_close_4 fl_X11_49 r_5_0 ?_
  refine tz_iload_n (pc := 7) dX11_close_7 rfl rfl ?_
  refine tz_cV (pc := 8) (c_has hl n _ _ (by omega)) vl_X11_304 dX11_close_8 o_6 rfl rfl (Nat.le_of_ble_eq_true rfl) ⟨(Nat.le_of_ble_eq_true rfl), (Nat.le_of_ble_eq_true rfl)⟩ rfl rfl (Nat.le_of_ble_eq_true rfl) (Nat.le_of_ble_eq_true rfl) (fun r9 J_8 hq9 => ?_)
  obtain ⟨z_8, rfl, hz_8, rfl, rfl⟩ := hq9
  by_cases hw_11 : 0 ≤ t ∧ t < J 6 12
  · rw [show (if 0 ≤ t ∧ t < J 6 12 then 1 else 0 : Int) = 1 from if_pos hw_11]
    refine tz_if_neT (pc := 11) (tgt := 21) (by decide) dX11_close_11 (by decide) (by decide) ?_
    refine tz_aload_n (pc := 21) dX11_close_21 rfl rfl ?_
    refine tz_fR (pc := 22) dX11_close_22 fl_X11_62 r_0_7 ?_
    refine tz_iload_n (pc := 25) dX11_close_25 rfl rfl ?_
    refine tz_aload_n (pc := 26) dX11_close_26 rfl rfl ?_
    refine tz_fR (pc := 27) dX11_close_27 fl_X11_29 r_0_1 ?_
    refine tz_fR (pc := 30) dX11_close_30 fl_X11_156 r_5_1 ?_
    refine tz_fR (pc := 33) dX11_close_33 fl_X11_167 r_18_0 ?_
    refine tz_bipush (pc := 36) dX11_close_36 (by decide) ?_
    refine tz_cV (pc := 38) (x_hasRing hl n _ _ (by omega) m hC hm hL.2.1 (by omega)) vl_X11_312 dX11_close_38 o_141 rfl rfl (Nat.le_of_ble_eq_true rfl) ⟨(Nat.le_of_ble_eq_true rfl), (Nat.le_of_ble_eq_true rfl)⟩ rfl rfl (Nat.le_of_ble_eq_true rfl) (Nat.le_of_ble_eq_true rfl) (fun r9 J_38 hq9 => ?_)
    obtain ⟨z_38, rfl, hz_38, rfl, zb9, rn9, ry9⟩ := hq9
    refine tz_if_eq (pc := 41) (tgt := 52) dX11_close_41 (by decide) (by omega) (fun h_41 => ?_) (fun h_41 => ?_)
    · refine tz_aload_n (pc := 52) dX11_close_52 rfl rfl ?_
      refine tz_fR (pc := 53) dX11_close_53 fl_X11_29 r_0_1 ?_
      refine tz_cV (pc := 56) (c_begin hl n _) vl_X11_287 dX11_close_56 o_5 rfl rfl (Nat.le_of_ble_eq_true rfl) ⟨(Nat.le_of_ble_eq_true rfl), (Nat.le_of_ble_eq_true rfl)⟩ rfl rfl (Nat.le_of_ble_eq_true rfl) (Nat.le_of_ble_eq_true rfl) (fun r9 Jb hq9 => ?_)
      obtain ⟨rfl, hj⟩ := hq9
      have hb9 : zOf (zbut [19, 61]) Jb J := by rw [← hj]; exact zOf.cp rfl (zOf.up rfl zOf.rf)
      have hb19 : ∀ k, ¬ k = 0 → Jb 19 k = J 19 k := fun k hk => by rw [← hj, zcp_nc (by decide), zup_ne hk]
      have a0 : AC Jb m m := by rw [← hj]; exact hI.begin
      have hb6 := a0.1.1.2.1
      obtain ⟨cb, kb, lb⟩ := cc.begin hI hj
      refine tz_aload_n (pc := 59) dX11_close_59 rfl rfl ?_
      refine tz_aload_n (pc := 60) dX11_close_60 rfl rfl ?_
      refine tz_fR (pc := 61) dX11_close_61 fl_X11_62 r_0_7 ?_
      refine tz_iload_n (pc := 64) dX11_close_64 rfl rfl ?_
      refine tz_aload_n (pc := 65) dX11_close_65 rfl rfl ?_
      refine tz_fR (pc := 66) dX11_close_66 fl_X11_29 r_0_1 ?_
      refine tz_fR (pc := 69) dX11_close_69 fl_X11_156 r_5_1 ?_
      refine tz_fR (pc := 72) dX11_close_72 fl_X11_167 r_18_0 ?_
      refine tz_bipush (pc := 75) dX11_close_75 (by decide) ?_
      refine tz_cV (pc := 77) (x_closed hl n _ _ (by omega) m S a0.1.1.1 a0.1.1.2.1 (by omega) a0.1.1.2.2.2.1 h21 cb.1 (bO_r cb.2.1) (rn9 (by omega) S (bO S) cc.1 (bO_r cc.2.1))) vl_X11_316 dX11_close_77 o_141 rfl rfl (Nat.le_of_ble_eq_true rfl) ⟨(Nat.le_of_ble_eq_true rfl), (Nat.le_of_ble_eq_true rfl)⟩ rfl rfl (Nat.le_of_ble_eq_true rfl) (Nat.le_of_ble_eq_true rfl) (fun r9 J_77 hq9 => ?_)
      obtain ⟨z_77, rfl, hz_77, m1, g1, h1, x1⟩ := hq9
      have a1 := a0.gx0 g1 rfl
      have o1 := x1.q cb.2.1 a0.1.1.2.2 (g1.2.2.2.2 19 rfl) (fun k h => grO_5 6 S t k h)
      refine tz_cV (pc := 80) (x_settled hl n _ _ (by omega) m m1 a1) vl_X11_293 dX11_close_80 o_0 rfl rfl (Nat.le_of_ble_eq_true rfl) ⟨(Nat.le_of_ble_eq_true rfl), (Nat.le_of_ble_eq_true rfl)⟩ rfl rfl (Nat.le_of_ble_eq_true rfl) (Nat.le_of_ble_eq_true rfl) (fun r9 J_80 hq9 => ?_)
      obtain ⟨z_80, rfl, hz_80, s9, s8⟩ := hq9
      exact tz_iret (pc := 83) (z := z_80) dX11_close_83 rfl (Nat.le_of_ble_eq_true rfl) (Nat.le_of_ble_eq_true rfl) ⟨Nat.le_refl _, Nat.le_add_right _ _⟩ ⟨_, rfl, (by omega), ⟨(s9.cq (by rw [g1.2.2.2.2 145 rfl, hb9 145 rfl]; omega) ((g1.2.2.2.2 0 rfl).trans (hb9 0 rfl)) ((g1.2.2.2.2.mono (fun c hc => by have := of_decide_eq_true hc; simp [zbut]; omega)).tr (hb9.mono (fun c hc => by have := of_decide_eq_true hc; simp [zbut]; omega)))), Or.inl ⟨by omega, rn9 (by omega) S (bO S) cc.1 (bO_r cc.2.1), act_end cc hI hj g1 rfl o1 s8⟩⟩⟩
    · refine tz_aload_n (pc := 44) dX11_close_44 rfl rfl ?_
      refine tz_iconst (pc := 45) dX11_close_45 ?_
      refine tz_bipush (pc := 46) dX11_close_46 (by decide) ?_
      refine tz_cV (pc := 48) (c_refused hl n _ _ _ (by decide) (by omega) (by decide)) vl_X11_284 dX11_close_48 o_0 rfl rfl (Nat.le_of_ble_eq_true rfl) ⟨(Nat.le_of_ble_eq_true rfl), (Nat.le_of_ble_eq_true rfl)⟩ rfl rfl (Nat.le_of_ble_eq_true rfl) (Nat.le_of_ble_eq_true rfl) (fun r9 J_48 hq9 => ?_)
      obtain ⟨z_48, rfl, hz_48, f9, rfl⟩ := hq9
      exact tz_iret (pc := 51) (z := (-2)) dX11_close_51 rfl (Nat.le_of_ble_eq_true rfl) (Nat.le_of_ble_eq_true rfl) ⟨Nat.le_refl _, Nat.le_add_right _ _⟩ ⟨_, rfl, (by decide), ⟨(SQ.cq ⟨⟨m, hI.st f9⟩, f9 145 rfl, f9 0 rfl, (f9.mono (fun c hc => by have := of_decide_eq_true hc; simp [zbut]; omega))⟩ (by omega) rfl zOf.rf), Or.inr (Or.inl ⟨by omega, ry9 (by omega) S (bO S) cc.1 (bO_r cc.2.1), rfl, cc.st hI f9⟩)⟩⟩
  · rw [show (if 0 ≤ t ∧ t < J 6 12 then 1 else 0 : Int) = 0 from if_neg hw_11]
    refine tz_if_neF (pc := 11) (tgt := 21) (by decide) dX11_close_11 (by decide) (by decide) ?_
    refine tz_aload_n (pc := 14) dX11_close_14 rfl rfl ?_
    refine tz_iconst (pc := 15) dX11_close_15 ?_
    refine tz_iconst (pc := 16) dX11_close_16 ?_
    refine tz_cV (pc := 17) (c_refused hl n _ _ _ (by decide) (by omega) (by decide)) vl_X11_284 dX11_close_17 o_0 rfl rfl (Nat.le_of_ble_eq_true rfl) ⟨(Nat.le_of_ble_eq_true rfl), (Nat.le_of_ble_eq_true rfl)⟩ rfl rfl (Nat.le_of_ble_eq_true rfl) (Nat.le_of_ble_eq_true rfl) (fun r9 J_17 hq9 => ?_)
    obtain ⟨z_17, rfl, hz_17, f9, rfl⟩ := hq9
    exact tz_iret (pc := 20) (z := (-1)) dX11_close_20 rfl (Nat.le_of_ble_eq_true rfl) (Nat.le_of_ble_eq_true rfl) ⟨Nat.le_refl _, Nat.le_add_right _ _⟩ ⟨_, rfl, (by decide), ⟨(SQ.cq ⟨⟨m, hI.st f9⟩, f9 145 rfl, f9 0 rfl, (f9.mono (fun c hc => by have := of_decide_eq_true hc; simp [zbut]; omega))⟩ (by omega) rfl zOf.rf), Or.inr (Or.inr ⟨by omega, rfl, cc.st hI f9⟩)⟩⟩

theorem AE4 {S J' Jb J : zJ} {F : zJ × Int} {n z : Int} {R : Int → Int → Int} {P P' Q : Prop} (q : MQr J' J) (b : MFI Jb J) (e : MED S n R F J' z ∧ MFI J' Jb) (p : P) (p' : P') : MQr J' J ∧ MFI J' J ∧ ((P ∧ P' ∧ MED S n R F J' z) ∨ Q) := ⟨q, b.tr e.2, Or.inl ⟨p, p', e.1⟩⟩
set_option maxHeartbeats 4000000 in
set_option maxRecDepth 100000 in
theorem v_qclose {l : Launch} {G : tb_G} (hl : l.stackTraces = false) (n : Nat) (J : zJ) (x : Int) (hr_x : -2147483648 ≤ x ∧ x < 2147483648) (m : Int) (pn : Int) (RR : Int → Int → Int) (hI : MI J m) (u9 : MUr J pn RR) : tz_Ok l G M_X12_close 23 0 0 [.ref 164, zi x] n J (zqi (fun z J' => MQr J' J ∧ MFI J' J ∧ (((0 ≤ x ∧ x < J 165 0) ∧ NRb (tbz J) (bO (tbz J)) x ∧ MED (tbz J) pn RR (cloF (tbz J) x) J' z) ∨ ((0 ≤ x ∧ x < J 165 0) ∧ ¬ NRb (tbz J) (bO (tbz J)) x ∧ z = -2 ∧ MBT J' (tbz J) ∧ MUr J' pn RR) ∨ (¬ (0 ≤ x ∧ x < J 165 0) ∧ z = -1 ∧ MBT J' (tbz J) ∧ MUr J' pn RR)))) zN := by
  refine tz_Ok.of hl (by decide +kernel) rfl (tb_c1 rfl) (Nat.le_of_ble_eq_true rfl) ?_
  show tz_At l G M_X12_close (tb_rm 23 0 0) none (tb_ZM G 0 0 (zQ n 0 (zqi (fun z J' => MQr J' J ∧ MFI J' J ∧ (((0 ≤ x ∧ x < J 165 0) ∧ NRb (tbz J) (bO (tbz J)) x ∧ MED (tbz J) pn RR (cloF (tbz J) x) J' z) ∨ ((0 ≤ x ∧ x < J 165 0) ∧ ¬ NRb (tbz J) (bO (tbz J)) x ∧ z = -2 ∧ MBT J' (tbz J) ∧ MUr J' pn RR) ∨ (¬ (0 ≤ x ∧ x < J 165 0) ∧ z = -1 ∧ MBT J' (tbz J) ∧ MUr J' pn RR))))) (zX n 0 zN)) 0 0 n J 0 [some (.ref 164), some (zi x)] []
  have hT := hI.told
  have hW := hI.row
  have hM := hI.1
  have hL := hI.2.1
  refine tz_aload_n (pc := 0) dX12_close_0 rfl rfl ?_
  refine tz_iconst (pc := 1) dX12_close_1 ?_
  refine tz_pI (pc := 2) (kz := 8) dX12_close_2 fl_X12_68 i_164_8 rfl rfl (by decide) ?_
  refine tz_aload_n (pc := 5) dX12_close_5 rfl rfl ?_
  refine tz_iload_n (pc := 6) dX12_close_6 rfl rfl ?_
  refine tz_cV (pc := 7) (m_isTerm hl n _ _ (by omega) (by rw [(show ((zup J 164 8 0) : zJ) 165 0 = (J 165 0) from rfl)]; omega)) vl_X12_376 dX12_close_7 o_164 rfl rfl (Nat.le_of_ble_eq_true rfl) ⟨(Nat.le_of_ble_eq_true rfl), (Nat.le_of_ble_eq_true rfl)⟩ rfl rfl (Nat.le_of_ble_eq_true rfl) (Nat.le_of_ble_eq_true rfl) (fun r9 J_7 hq9 => ?_)
  obtain ⟨z_7, rfl, hz_7, rfl, ht_7⟩ := hq9
  rw [(show ((zup J 164 8 0) : zJ) 165 0 = (J 165 0) from rfl)] at ht_7
  refine tz_if_ne (pc := 10) (tgt := 20) dX12_close_10 (by decide) (by omega) (fun h_10 => ?_) (fun h_10 => ?_)
  · refine tz_aload_n (pc := 20) dX12_close_20 rfl rfl ?_
    refine tz_cV (pc := 21) (x_laysB hl n _ m hL.2.2.2 (by omega)) vl_X12_406 dX12_close_21 o_164 rfl rfl (Nat.le_of_ble_eq_true rfl) ⟨(Nat.le_of_ble_eq_true rfl), (Nat.le_of_ble_eq_true rfl)⟩ rfl rfl (Nat.le_of_ble_eq_true rfl) (Nat.le_of_ble_eq_true rfl) (fun r9 J_21 hq9 => ?_)
    obtain ⟨rfl, l_21, f_21⟩ := hq9
    have y_21 : MZ J_21 J := MZ.tr (MZ.up (k := 8) MZ.rf (by decide)) (MZ.c f_21 (by decide))
    have gk_21 : gOK (J_21 175) m := fun v a c => by have q9 := hL.2.2.2 (1 + v) (by omega) (by omega); have l9 := l_21 v a c; have l8 : J_21 175 v = J 165 (1 + v) - 1 := l9; omega
    have lb_21 : ∀ v, 0 ≤ v → v < 8 → bO (tbz J) v = J_21 175 v := fun v a c => by have l9 : J_21 175 v = J 165 (1 + v) - 1 := l_21 v a c; rw [l9]; show (if 0 ≤ 1 + v ∧ 1 + v < 63 then J 165 (1 + v) else 0) - 1 = _; rw [if_pos (by omega)]
    refine tz_aload_n (pc := 24) dX12_close_24 rfl rfl ?_
    refine tz_iload_n (pc := 25) dX12_close_25 rfl rfl ?_
    refine tz_cV (pc := 26) (o_ring hl n _ _ (by omega) (J 164 9) m (hM.z y_21) (by omega) gk_21) vl_X12_409 dX12_close_26 o_164 rfl rfl (Nat.le_of_ble_eq_true rfl) ⟨(Nat.le_of_ble_eq_true rfl), (Nat.le_of_ble_eq_true rfl)⟩ rfl rfl (Nat.le_of_ble_eq_true rfl) (Nat.le_of_ble_eq_true rfl) (fun r9 J_26 hq9 => ?_)
    obtain ⟨z_26, rfl, hz_26, f_26, b_26, rn_26, ry_26⟩ := hq9
    have y_26 : MZ J_26 J := MZ.tr y_21 (MZ.c f_26 (by decide))
    have zz_26 : zup (tb0 J_21) 164 21 0 = tbz J := tbz_z y_21
    have nb_26 : z_26 = 0 → NRb (tbz J) (bO (tbz J)) x := fun q9 => by rw [← zz_26]; exact NRb.z.2 (NR.b (hM.z y_21) gk_21 (by rw [zz_26]; exact lb_21) (by omega) (rn_26 q9))
    have yb_26 : z_26 = 1 → ¬ NRb (tbz J) (bO (tbz J)) x := fun q9 q8 => ry_26 q9 (by rw [← zz_26] at q8; exact NRb.j (hM.z y_21) gk_21 (by rw [zz_26]; exact lb_21) (by omega) (NRb.z.1 q8))
    refine tz_if_eq (pc := 29) (tgt := 40) dX12_close_29 (by decide) (by omega) (fun h_29 => ?_) (fun h_29 => ?_)
    · refine tz_aload_n (pc := 40) dX12_close_40 rfl rfl ?_
      refine tz_cV (pc := 41) (m_begins hl n _) vl_X12_400 dX12_close_41 o_164 rfl rfl (Nat.le_of_ble_eq_true rfl) ⟨(Nat.le_of_ble_eq_true rfl), (Nat.le_of_ble_eq_true rfl)⟩ rfl rfl (Nat.le_of_ble_eq_true rfl) (Nat.le_of_ble_eq_true rfl) (fun r9 J_41 hq9 => ?_)
      obtain ⟨rfl, hj_41⟩ := hq9
      have a_41 : AM J_41 J m m := by rw [← hj_41]; exact AM.begin (hI.z y_26) ⟨MZ.lo y_26, SC.z y_26⟩
      have br_41 : ∀ k, (k < 63 ∨ 126 ≤ k) → J_41 165 k = (J_26 : zJ) 165 k := fun k hk => by rw [← hj_41]; exact zbg_r hk
      have bl_41 : ∀ k, ¬ k = 34 → ¬ k = 33 → ¬ k = 21 → J_41 164 k = (J_26 : zJ) 164 k := fun k u v w => by rw [← hj_41]; exact zbg_f u v w
      have bo_41 : zOf (zbut [164, 165]) J_41 J_26 := by rw [← hj_41]; exact zbg_of
      have b3_41 : J_41 164 21 = 0 ∧ J_41 164 33 = 0 ∧ J_41 164 34 = 0 := by rw [← hj_41]; exact ⟨rfl, rfl, rfl⟩
      have s9_41 : J_41 164 9 = J 164 9 := (bl_41 9 (by decide) (by decide) (by decide)).trans (y_26.2 9 (by decide) (by decide))
      obtain ⟨⟨bt_41, bs_41, bm_41, ba_41⟩, bu_41, bn_41, bf_41, bi_41⟩ := mbeg hI y_26 hj_41 u9
      refine tz_aload_n (pc := 44) dX12_close_44 rfl rfl ?_
      refine tz_aload_n (pc := 45) dX12_close_45 rfl rfl ?_
      refine tz_iload_n (pc := 46) dX12_close_46 rfl rfl ?_
      refine tz_iconst (pc := 47) dX12_close_47 ?_
      have g5_48 : J_41 175 = J_21 175 := by rw [bo_41 175 rfl, f_26 175 rfl]
      refine tz_cV (pc := 48) (o_closed hl n _ _ (by omega) (J_41 164 9) m (bO (tbz J)) (a_41).1.1 rfl (by omega) (by rw [g5_48]; exact gk_21) (by rw [g5_48]; exact lb_21) (by rw [bt_41]; exact nb_26 (by omega))) vl_X12_158 dX12_close_48 o_164 rfl rfl (Nat.le_of_ble_eq_true rfl) ⟨(Nat.le_of_ble_eq_true rfl), (Nat.le_of_ble_eq_true rfl)⟩ rfl rfl (Nat.le_of_ble_eq_true rfl) (Nat.le_of_ble_eq_true rfl) (fun r9 J_48 hq9 => ?_)
      obtain ⟨z_48, rfl, hz_48, m_48, g_48, h_48, x_48⟩ := hq9
      have a_48 := AM.grow0 a_41 g_48 (fun c hc => by simp at hc) (fun k x y => by simp; omega) rfl
      have lm_48 := a_48.1.2.2
      have e_48 := x_48
      rw [bt_41] at e_48
      refine tz_cV (pc := 51) (m_keeps hl n _ _ (by omega) (a_48).2.2.2.1.1.1 (a_48).2.2.2.1.1.2) vl_X12_403 dX12_close_51 o_164 rfl rfl (Nat.le_of_ble_eq_true rfl) ⟨(Nat.le_of_ble_eq_true rfl), (Nat.le_of_ble_eq_true rfl)⟩ rfl rfl (Nat.le_of_ble_eq_true rfl) (Nat.le_of_ble_eq_true rfl) (fun r9 J_51 hq9 => ?_)
      obtain ⟨z_51, rfl, hz_51, k_51⟩ := hq9
      exact tz_iret (pc := 54) (z := z_51) dX12_close_54 rfl (Nat.le_of_ble_eq_true rfl) (Nat.le_of_ble_eq_true rfl) ⟨Nat.le_refl _, Nat.le_add_right _ _⟩ ⟨_, rfl, (by omega), (AE4 (AM.keep a_48 k_51) bi_41 (mact_end (F := cloF (tbz J) x) bt_41 bs_41 bm_41 ba_41 bu_41 bn_41 bf_41 (MOP.mg g_48) (congrArg Prod.fst e_48) (by rw [show (cloF (tbz J) x).1 = tb0 J_48 from (congrArg Prod.fst e_48).symm]; show J_48 165 0 ≤ 400; have t9 := g_48.1.1.told; have s9 := g_48.1.1.2.2.2.2.1; omega) (fun _ => congrArg Prod.snd e_48) k_51) (by omega) (nb_26 (by omega)))⟩
    · refine tz_aload_n (pc := 32) dX12_close_32 rfl rfl ?_
      refine tz_iconst (pc := 33) dX12_close_33 ?_
      refine tz_bipush (pc := 34) dX12_close_34 (by decide) ?_
      refine tz_cV (pc := 36) (m_refuses hl n _ _ _ (by decide) (by decide) (by decide)) vl_X12_391 dX12_close_36 o_164 rfl rfl (Nat.le_of_ble_eq_true rfl) ⟨(Nat.le_of_ble_eq_true rfl), (Nat.le_of_ble_eq_true rfl)⟩ rfl rfl (Nat.le_of_ble_eq_true rfl) (Nat.le_of_ble_eq_true rfl) (fun r9 J_36 hq9 => ?_)
      obtain ⟨z_36, rfl, hz_36, rfl, f_36⟩ := hq9
      have y_36 : MZ J_36 J := MZ.tr y_26 (MZ.c f_36 (by decide))
      exact tz_iret (pc := 39) (z := (-2)) dX12_close_39 rfl (Nat.le_of_ble_eq_true rfl) (Nat.le_of_ble_eq_true rfl) ⟨Nat.le_refl _, Nat.le_add_right _ _⟩ ⟨_, rfl, (by decide), ⟨MQr.z hI y_36, MFI.z y_36, Or.inr (Or.inl ⟨by omega, yb_26 (by omega), rfl, MBT.z hI y_36, u9.z y_36⟩)⟩⟩
  · refine tz_aload_n (pc := 13) dX12_close_13 rfl rfl ?_
    refine tz_iconst (pc := 14) dX12_close_14 ?_
    refine tz_iconst (pc := 15) dX12_close_15 ?_
    refine tz_cV (pc := 16) (m_refuses hl n _ _ _ (by decide) (by decide) (by decide)) vl_X12_391 dX12_close_16 o_164 rfl rfl (Nat.le_of_ble_eq_true rfl) ⟨(Nat.le_of_ble_eq_true rfl), (Nat.le_of_ble_eq_true rfl)⟩ rfl rfl (Nat.le_of_ble_eq_true rfl) (Nat.le_of_ble_eq_true rfl) (fun r9 J_16 hq9 => ?_)
    obtain ⟨z_16, rfl, hz_16, rfl, f_16⟩ := hq9
    have y_16 : MZ J_16 J := MZ.tr (MZ.up (k := 8) MZ.rf (by decide)) (MZ.c f_16 (by decide))
    exact tz_iret (pc := 19) (z := (-1)) dX12_close_19 rfl (Nat.le_of_ble_eq_true rfl) (Nat.le_of_ble_eq_true rfl) ⟨Nat.le_refl _, Nat.le_add_right _ _⟩ ⟨_, rfl, (by decide), ⟨MQr.z hI y_16, MFI.z y_16, Or.inr (Or.inr ⟨by omega, rfl, MBT.z hI y_16, u9.z y_16⟩)⟩⟩

