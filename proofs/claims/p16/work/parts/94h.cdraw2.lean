/-! ===== draw of the class, exact ===== -/
theorem drO_5 : ∀ (d : Nat) (S : zJ) (s q : Int), ¬ q = 0 → (drO d S s).1.1 165 q = S 165 q
  | 0, _, _, _, _ => rfl
  | d + 1, S, s, q, h => by
    have a : ∀ G s A i, (dA (drO d) G s A i).1.1 165 q = G 165 q := fun G s A i => by
      unfold dA
      split
      · exact drO_5 d G s q h
      · rfl
    rw [drO_s]
    split
    · exact tmO_5 h
    · show (tmO _ _ _ _ _).1 165 q = _
      rw [tmO_5 h]
      unfold dr2
      rw [a]
      unfold dr1
      rw [a]
      unfold dr0
      rw [a]
theorem EXD.e {F : (zJ × Int) × Int} {z : Int} {J' : zJ} (h : EXD F z J') : EXO F.1 z J' := h.imp id (fun q => ⟨q.1, q.2.1, q.2.2.1, q.2.2.2.1⟩)
set_option maxHeartbeats 4000000 in
set_option maxRecDepth 100000 in
theorem x_drawn {l : Launch} {G : tb_G} (hl : l.stackTraces = false) (n : Nat) (J : zJ) (x : Int) (hr_x : -2147483648 ≤ x ∧ x < 2147483648) (m : Int) (C : CT J m) (hm : J 6 12 = m) (hx : 1 ≤ x ∧ x ≤ 4) : tz_Ok l G M_X2_drawn 10 0 0 [.ref 141, zi x] n J (zqi (fun z J' => ∃ m', GX [141] J' J m m' ∧ (z = -3 ∨ (0 ≤ z ∧ z < m')) ∧ ∀ S, S 164 21 = 0 → A0 J S → EXD (drO x.toNat S (J 141 5)) z J')) zN := by
  refine tz_Ok.of hl (by decide +kernel) rfl (tb_c1 rfl) (Nat.le_of_ble_eq_true rfl) ?_
  show tz_At l G M_X2_drawn (tb_rm 10 0 0) none (tb_ZM G 0 0 (zQ n 0 (zqi (fun z J' => ∃ m', GX [141] J' J m m' ∧ (z = -3 ∨ (0 ≤ z ∧ z < m')) ∧ ∀ S, S 164 21 = 0 → A0 J S → EXD (drO x.toNat S (J 141 5)) z J'))) (zX n 0 zN)) 0 0 n J 0 [some (.ref 141), some (zi x)] []
  refine tz_aload_n (pc := 0) dX2_drawn_0 rfl rfl ?_
  refine tz_iload_n (pc := 1) dX2_drawn_1 rfl rfl ?_
  refine tz_iconst (pc := 2) dX2_drawn_2 ?_
  refine tz_mn (pc := 3) (v := if 4 < x then 4 else x) dX2_drawn_3 ml_X2_103 (Nat.le_of_ble_eq_true rfl) (Nat.le_of_ble_eq_true rfl) (Nat.le_of_ble_eq_true rfl) (Nat.le_of_ble_eq_true rfl) (by omega) (by decide) rfl ?_
  refine tz_cV (pc := 6) (x_drawnP hl n 5 _ _ (by split <;> omega) m C hm (by split <;> omega) (by split <;> omega)) vl_X2_108 dX2_drawn_6 o_141 rfl rfl (Nat.le_of_ble_eq_true rfl) ⟨(Nat.le_of_ble_eq_true rfl), (Nat.le_of_ble_eq_true rfl)⟩ rfl rfl (Nat.le_of_ble_eq_true rfl) (Nat.le_of_ble_eq_true rfl) (fun r9 J_6 hq9 => ?_)
  obtain ⟨z_6, rfl, hz_6, m1, g1, h1, x1⟩ := hq9
  exact tz_iret (pc := 9) (z := z_6) dX2_drawn_9 rfl (Nat.le_of_ble_eq_true rfl) (Nat.le_of_ble_eq_true rfl) ⟨Nat.le_refl _, Nat.le_add_right _ _⟩ ⟨_, rfl, (by omega), ⟨m1, g1, h1, by first | exact x1 | (rw [show (zmn x 4) = x from by unfold zmn; rw [if_neg (by omega)]] at x1; exact x1) | (rw [show (if 4 < x then 4 else x) = x from if_neg (by omega)] at x1; exact x1)⟩⟩

set_option maxHeartbeats 4000000 in
set_option maxRecDepth 100000 in
theorem v_draw {l : Launch} {G : tb_G} (hl : l.stackTraces = false) (n : Nat) (J : zJ) (s : Int) (x : Int) (hr_s : -2147483648 ≤ s ∧ s < 2147483648) (hr_x : -2147483648 ≤ x ∧ x < 2147483648) (m : Int) (S : zJ) (pn : Int) (RR : Int → Int → Int) (hI : CI J m) (h9 : J 145 10 < 1000000000) (cc : CAL J S pn RR) (h21 : S 164 21 = 0) : tz_Ok l G M_X11_draw 11 0 0 [.ref 0, zi s, zi x] n J (zqi (fun z J' => CQ J' J ∧ (((1 ≤ x ∧ x ≤ 4) ∧ ED S pn RR (drO x.toNat S s).1 J' z) ∨ (¬ (1 ≤ x ∧ x ≤ 4) ∧ z = -1 ∧ CAL J' S pn RR)))) zN := by
  refine tz_Ok.of hl (by decide +kernel) rfl (tb_c1 rfl) (Nat.le_of_ble_eq_true rfl) ?_
  show tz_At l G M_X11_draw (tb_rm 11 0 0) none (tb_ZM G 0 0 (zQ n 0 (zqi (fun z J' => CQ J' J ∧ (((1 ≤ x ∧ x ≤ 4) ∧ ED S pn RR (drO x.toNat S s).1 J' z) ∨ (¬ (1 ≤ x ∧ x ≤ 4) ∧ z = -1 ∧ CAL J' S pn RR))))) (zX n 0 zN)) 0 0 n J 0 [some (.ref 0), some (zi s), some (zi x)] []
  have hC := hI.1.1.1
  have hm := hI.1.1.2.1
  have hL := hI.1.1.2.2
  have hb := hC.told
  have wb := cc.2.1.b hL
  refine tz_iload_n (pc := 0) dX11_draw_0 rfl rfl ?_
  refine tz_iconst (pc := 1) dX11_draw_1 ?_
  refine tz_icmp_lt (pc := 2) (tgt := 10) dX11_draw_2 (by decide) (by omega) (by decide) (fun h_2 => ?_) (fun h_2 => ?_)
  · refine tz_aload_n (pc := 10) dX11_draw_10 rfl rfl ?_
    refine tz_iconst (pc := 11) dX11_draw_11 ?_
    refine tz_iconst (pc := 12) dX11_draw_12 ?_
    refine tz_cV (pc := 13) (c_refused hl n _ _ _ (by decide) (by omega) (by decide)) vl_X11_284 dX11_draw_13 o_0 rfl rfl (Nat.le_of_ble_eq_true rfl) ⟨(Nat.le_of_ble_eq_true rfl), (Nat.le_of_ble_eq_true rfl)⟩ rfl rfl (Nat.le_of_ble_eq_true rfl) (Nat.le_of_ble_eq_true rfl) (fun r9 J_13 hq9 => ?_)
    obtain ⟨z_13, rfl, hz_13, f9, rfl⟩ := hq9
    exact tz_iret (pc := 16) (z := (-1)) dX11_draw_16 rfl (Nat.le_of_ble_eq_true rfl) (Nat.le_of_ble_eq_true rfl) ⟨Nat.le_refl _, Nat.le_add_right _ _⟩ ⟨_, rfl, (by decide), ⟨(SQ.cq ⟨⟨m, hI.st f9⟩, f9 145 rfl, f9 0 rfl, (f9.mono (fun c hc => by have := of_decide_eq_true hc; simp [zbut]; omega))⟩ (by omega) rfl zOf.rf), Or.inr ⟨by omega, rfl, cc.st hI f9⟩⟩⟩
  · refine tz_iload_n (pc := 5) dX11_draw_5 rfl rfl ?_
    refine tz_iconst (pc := 6) dX11_draw_6 ?_
    refine tz_icmp_le (pc := 7) (tgt := 17) dX11_draw_7 (by decide) (by omega) (by decide) (fun h_7 => ?_) (fun h_7 => ?_)
    · refine tz_aload_n (pc := 17) dX11_draw_17 rfl rfl ?_
      refine tz_fR (pc := 18) dX11_draw_18 fl_X11_29 r_0_1 ?_
      refine tz_cV (pc := 21) (c_begin hl n _) vl_X11_287 dX11_draw_21 o_5 rfl rfl (Nat.le_of_ble_eq_true rfl) ⟨(Nat.le_of_ble_eq_true rfl), (Nat.le_of_ble_eq_true rfl)⟩ rfl rfl (Nat.le_of_ble_eq_true rfl) (Nat.le_of_ble_eq_true rfl) (fun r9 Jb hq9 => ?_)
      obtain ⟨rfl, hj⟩ := hq9
      have hb9 : zOf (zbut [19, 61]) Jb J := by rw [← hj]; exact zOf.cp rfl (zOf.up rfl zOf.rf)
      have hb19 : ∀ k, ¬ k = 0 → Jb 19 k = J 19 k := fun k hk => by rw [← hj, zcp_nc (by decide), zup_ne hk]
      have a0 : AC Jb m m := by rw [← hj]; exact hI.begin
      have hb6 := a0.1.1.2.1
      obtain ⟨cb, kb, lb⟩ := cc.begin hI hj
      refine tz_aload_n (pc := 24) dX11_draw_24 rfl rfl ?_
      refine tz_fR (pc := 25) dX11_draw_25 fl_X11_62 r_0_7 ?_
      refine tz_iload_n (pc := 28) dX11_draw_28 rfl rfl ?_
      refine tz_pI (pc := 29) (kz := 5) dX11_draw_29 fl_X11_369 i_141_5 rfl rfl (by omega) ?_
      refine tz_aload_n (pc := 32) dX11_draw_32 rfl rfl ?_
      refine tz_aload_n (pc := 33) dX11_draw_33 rfl rfl ?_
      refine tz_fR (pc := 34) dX11_draw_34 fl_X11_62 r_0_7 ?_
      refine tz_iload_n (pc := 37) dX11_draw_37 rfl rfl ?_
      have a2 : AC (zup Jb 141 5 s) m m := a0.gx0 (X := [141]) ((GX.rf a0.1.1.1 hb6).off rfl (zOf.up rfl zOf.rf)) rfl
      have f2 : zOf (zbut [141]) (zup Jb 141 5 s) Jb := zOf.up rfl zOf.rf
      refine tz_cV (pc := 38) (x_drawn hl n _ _ (by omega) m a2.1.1.1 a2.1.1.2.1 (by omega)) vl_X11_372 dX11_draw_38 o_141 rfl rfl (Nat.le_of_ble_eq_true rfl) ⟨(Nat.le_of_ble_eq_true rfl), (Nat.le_of_ble_eq_true rfl)⟩ rfl rfl (Nat.le_of_ble_eq_true rfl) (Nat.le_of_ble_eq_true rfl) (fun r9 J_38 hq9 => ?_)
      obtain ⟨z_38, rfl, hz_38, m1, g1, h1, x1⟩ := hq9
      have a1 := a2.gx0 g1 rfl
      have gx : GX [141] J_38 Jb m m1 := GX.tr ((GX.rf a0.1.1.1 hb6).off rfl f2) g1
      have gg : zOf (zbut [6, 7, 8, 9, 10, 11, 12, 13, 14, 15, 16, 17, 141]) J_38 Jb := gx.2.2.2.2
      have x2 := x1 S h21 (cb.1.f (fun c hc => f2 c (by simp [zbut]; omega)))
      rw [show zup Jb 141 5 s 141 5 = s from zup_at] at x2
      have o1 := x2.e.q cb.2.1 a0.1.1.2.2 (gx.2.2.2.2 19 rfl) (fun k h => drO_5 _ S s k h)
      refine tz_cV (pc := 41) (x_settled hl n _ _ (by omega) m m1 a1) vl_X11_293 dX11_draw_41 o_0 rfl rfl (Nat.le_of_ble_eq_true rfl) ⟨(Nat.le_of_ble_eq_true rfl), (Nat.le_of_ble_eq_true rfl)⟩ rfl rfl (Nat.le_of_ble_eq_true rfl) (Nat.le_of_ble_eq_true rfl) (fun r9 J_41 hq9 => ?_)
      obtain ⟨z_41, rfl, hz_41, s9, s8⟩ := hq9
      exact tz_iret (pc := 44) (z := z_41) dX11_draw_44 rfl (Nat.le_of_ble_eq_true rfl) (Nat.le_of_ble_eq_true rfl) ⟨Nat.le_refl _, Nat.le_add_right _ _⟩ ⟨_, rfl, (by omega), ⟨(s9.cq (by rw [gg 145 rfl, hb9 145 rfl]; omega) ((gg 0 rfl).trans (hb9 0 rfl)) ((gg.mono (fun c hc => by have := of_decide_eq_true hc; simp [zbut]; omega)).tr (hb9.mono (fun c hc => by have := of_decide_eq_true hc; simp [zbut]; omega)))), Or.inl ⟨by omega, act_end cc hI hj gx rfl o1 s8⟩⟩⟩
    · refine tz_aload_n (pc := 10) dX11_draw_10 rfl rfl ?_
      refine tz_iconst (pc := 11) dX11_draw_11 ?_
      refine tz_iconst (pc := 12) dX11_draw_12 ?_
      refine tz_cV (pc := 13) (c_refused hl n _ _ _ (by decide) (by omega) (by decide)) vl_X11_284 dX11_draw_13 o_0 rfl rfl (Nat.le_of_ble_eq_true rfl) ⟨(Nat.le_of_ble_eq_true rfl), (Nat.le_of_ble_eq_true rfl)⟩ rfl rfl (Nat.le_of_ble_eq_true rfl) (Nat.le_of_ble_eq_true rfl) (fun r9 J_13 hq9 => ?_)
      obtain ⟨z_13, rfl, hz_13, f9, rfl⟩ := hq9
      exact tz_iret (pc := 16) (z := (-1)) dX11_draw_16 rfl (Nat.le_of_ble_eq_true rfl) (Nat.le_of_ble_eq_true rfl) ⟨Nat.le_refl _, Nat.le_add_right _ _⟩ ⟨_, rfl, (by decide), ⟨(SQ.cq ⟨⟨m, hI.st f9⟩, f9 145 rfl, f9 0 rfl, (f9.mono (fun c hc => by have := of_decide_eq_true hc; simp [zbut]; omega))⟩ (by omega) rfl zOf.rf), Or.inr ⟨by omega, rfl, cc.st hI f9⟩⟩⟩

