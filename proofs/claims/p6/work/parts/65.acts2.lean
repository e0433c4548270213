theorem CQ.k {J' J1 J : zJ} {m : Int} (k : CI J' m ∧ zOf fkp J' J1) (e1 : J1 145 10 ≤ J 145 10 + 24000) (e0 : J1 0 = J 0) (f : zOf fou J1 J) : CQ J' J := ⟨⟨m, k.1⟩, by rw [k.2 145 rfl]; exact e1, (k.2 0 rfl).trans e0, (k.2.mono (fun c hc => by have := of_decide_eq_true hc; exact decide_eq_true (by omega))).tr f⟩
theorem AC.led {J' J : zJ} {m0 m : Int} (h : AC J m0 m) (f : zOf (zbut [19]) J' J) (hL : LI (J' 19) m) : AC J' m0 m := h.gx (X := [19]) ((GX.rf h.1.1.1 h.1.1.2.1).off rfl f) rfl hL (h.1.2.1.of (f 145 rfl) (f 146 rfl))
theorem LI.got {J : zJ} {m : Int} (h : LI (J 19) m) (hg : gOK (J 140) m) : LI (zcp J 140 19 0 7 8 19) m := by
  obtain ⟨h1, h2, h3, h4, h5⟩ := h
  have e : ∀ k, (k < 7 ∨ 15 ≤ k) → zcp J 140 19 0 7 8 19 k = J 19 k := fun k hk => zcp_out (by omega)
  unfold LI
  rw [e 1 (by omega), e 4 (by omega), e 5 (by omega), e 6 (by omega)]
  refine ⟨h1, fun v a b => ?_, fun i a b => ?_, fun i a b => ?_, fun i a b => ?_⟩
  · rw [zcp_in (by omega), show (0 : Int) + (7 + v - 7) = v by omega]
    exact hg v a b
  · rw [e (15 + i) (by omega), e (23 + i) (by omega)]
    exact h3 i a b
  · rw [e (31 + i) (by omega)]
    exact h4 i a b
  · rw [e (43 + i) (by omega), e (52 + i) (by omega)]
    exact h5 i a b
set_option maxHeartbeats 4000000 in
set_option maxRecDepth 100000 in
theorem t_bind {l : Launch} {G : tb_G} (hl : l.stackTraces = false) (n : Nat) (J : zJ) (x : Int) (t : Int) (hr_x : -2147483648 ≤ x ∧ x < 2147483648) (hr_t : -2147483648 ≤ t ∧ t < 2147483648) (m : Int) (hI : CI J m) (h9 : J 145 10 < 1000000000) : tz_Ok l G M_X11_bind 2 0 0 [.ref 0, zi x, zi t] n J (zqi (fun z J' => CQ J' J)) zN := by
  refine tz_Ok.of hl (by decide +kernel) rfl (tb_c1 rfl) (Nat.le_of_ble_eq_true rfl) ?_
  show tz_At l G M_X11_bind (tb_rm 2 0 0) none (tb_ZM G 0 0 (zQ n 0 (zqi (fun z J' => CQ J' J))) (zX n 0 zN)) 0 0 n J 0 [some (.ref 0), some (zi x), some (zi t), none] []
  have hC := hI.1.1.1
  have hm := hI.1.1.2.1
  have hL := hI.1.1.2.2
  have hb := hC.told
  refine tz_iload_n (pc := 0) dX11_bind_0 rfl rfl ?_
  refine tz_cS (pc := 1) (c_isVarN hl n _ _ (by omega)) sl_X11_279 dX11_bind_1 rfl rfl (Nat.le_of_ble_eq_true rfl) ⟨(Nat.le_of_ble_eq_true rfl), (Nat.le_of_ble_eq_true rfl)⟩ rfl rfl (Nat.le_of_ble_eq_true rfl) (Nat.le_of_ble_eq_true rfl) (fun r9 J_1 hq9 => ?_)
  obtain ⟨z_1, rfl, hz_1, rfl, rfl⟩ := hq9
  by_cases hw_4 : 0 ≤ x ∧ x < 8
  · rw [show (if 0 ≤ x ∧ x < 8 then 1 else 0 : Int) = 1 from if_pos hw_4]
    refine tz_if_eqF (pc := 4) (tgt := 26) (by decide) dX11_bind_4 (by decide) (by decide) ?_
    refine tz_iload_n (pc := 7) dX11_bind_7 rfl rfl ?_
    refine tz_iconst (pc := 8) dX11_bind_8 ?_
    refine tz_icmp_eq (pc := 9) (tgt := 34) dX11_bind_9 (by decide) (by omega) (by decide) (fun h_9 => ?_) (fun h_9 => ?_)
    · refine tz_aload_n (pc := 34) dX11_bind_34 rfl rfl ?_
      refine tz_fR (pc := 35) dX11_bind_35 fl_X11_29 r_0_1 ?_
      refine tz_fR (pc := 38) dX11_bind_38 fl_X11_156 r_5_1 ?_
      refine tz_fR (pc := 41) dX11_bind_41 fl_X11_167 r_18_0 ?_
      refine tz_bipush (pc := 44) dX11_bind_44 (by decide) ?_
      refine tz_iload_n (pc := 46) dX11_bind_46 rfl rfl ?_
      refine tz_iadd (pc := 47) (v := 7 + x) dX11_bind_47 rfl ?_
      have hq := hL.2.1 x (by omega) (by omega)
      refine tz_aL (pc := 48) (z := (7 + x)) (v := (J 19 (7 + x))) dX11_bind_48 a_19 rfl (by omega) rfl (fun r_48 => ?_)
      refine tz_istore_n (pc := 49) (L2 := [_, _, _, _]) dX11_bind_49 rfl (by decide) rfl ?_
      refine tz_iload_n (pc := 50) dX11_bind_50 rfl rfl ?_
      refine tz_iload_n (pc := 51) dX11_bind_51 rfl rfl ?_
      refine tz_icmp_ne (pc := 52) (tgt := 63) dX11_bind_52 (by decide) (by omega) (by omega) (fun h_52 => ?_) (fun h_52 => ?_)
      · refine tz_aload_n (pc := 63) dX11_bind_63 rfl rfl ?_
        refine tz_fR (pc := 64) dX11_bind_64 fl_X11_29 r_0_1 ?_
        refine tz_cV (pc := 67) (c_begin hl n _) vl_X11_287 dX11_bind_67 o_5 rfl rfl (Nat.le_of_ble_eq_true rfl) ⟨(Nat.le_of_ble_eq_true rfl), (Nat.le_of_ble_eq_true rfl)⟩ rfl rfl (Nat.le_of_ble_eq_true rfl) (Nat.le_of_ble_eq_true rfl) (fun r9 Jb hq9 => ?_)
        obtain ⟨rfl, hj⟩ := hq9
        have hb9 : zOf (zbut [19, 61]) Jb J := by rw [← hj]; exact zOf.cp rfl (zOf.up rfl zOf.rf)
        have hb19 : ∀ k, ¬ k = 0 → Jb 19 k = J 19 k := fun k hk => by rw [← hj, zcp_nc (by decide), zup_ne hk]
        have a0 : AC Jb m m := by rw [← hj]; exact hI.begin
        have hb6 := a0.1.1.2.1
        refine tz_aload_n (pc := 70) dX11_bind_70 rfl rfl ?_
        refine tz_fR (pc := 71) dX11_bind_71 fl_X11_29 r_0_1 ?_
        refine tz_fR (pc := 74) dX11_bind_74 fl_X11_156 r_5_1 ?_
        refine tz_fR (pc := 77) dX11_bind_77 fl_X11_167 r_18_0 ?_
        refine tz_bipush (pc := 80) dX11_bind_80 (by decide) ?_
        refine tz_iload_n (pc := 82) dX11_bind_82 rfl rfl ?_
        refine tz_iadd (pc := 83) (v := 7 + x) dX11_bind_83 rfl ?_
        refine tz_iload_n (pc := 84) dX11_bind_84 rfl rfl ?_
        refine tz_aS (pc := 85) (z := (7 + x)) dX11_bind_85 a_19 rfl (by omega) (by omega) ?_
        have fw : zOf (zbut [19]) (zup Jb 19 (7 + x) t) Jb := zOf.up rfl zOf.rf
        have a1 : AC (zup Jb 19 (7 + x) t) m m := a0.led fw (a0.1.1.2.2.bind (by omega) (by omega))
        refine tz_aload_n (pc := 86) dX11_bind_86 rfl rfl ?_
        refine tz_fR (pc := 87) dX11_bind_87 fl_X11_29 r_0_1 ?_
        refine tz_cV (pc := 90) (c_keep hl n _ m m a1) vl_X11_305 dX11_bind_90 o_5 rfl rfl (Nat.le_of_ble_eq_true rfl) ⟨(Nat.le_of_ble_eq_true rfl), (Nat.le_of_ble_eq_true rfl)⟩ rfl rfl (Nat.le_of_ble_eq_true rfl) (Nat.le_of_ble_eq_true rfl) (fun r9 Jk hq9 => ?_)
        obtain ⟨rfl, k9⟩ := hq9
        refine tz_iload_n (pc := 93) dX11_bind_93 rfl rfl ?_
        exact tz_iret (pc := 94) (z := (J 19 (7 + x))) dX11_bind_94 rfl (Nat.le_of_ble_eq_true rfl) (Nat.le_of_ble_eq_true rfl) ⟨Nat.le_refl _, Nat.le_add_right _ _⟩ ⟨_, rfl, (by omega), (CQ.k k9 (by rw [fw 145 rfl, hb9 145 rfl]; omega) ((fw 0 rfl).trans (hb9 0 rfl)) ((fw.mono (fun c hc => by have := of_decide_eq_true hc; simp [zbut]; omega)).tr (hb9.mono (fun c hc => by have := of_decide_eq_true hc; simp [zbut]; omega))))⟩
      · refine tz_aload_n (pc := 55) dX11_bind_55 rfl rfl ?_
        refine tz_iconst (pc := 56) dX11_bind_56 ?_
        refine tz_bipush (pc := 57) dX11_bind_57 (by decide) ?_
        refine tz_cV (pc := 59) (c_refused hl n _ _ _ (by decide) (by omega) (by decide)) vl_X11_284 dX11_bind_59 o_0 rfl rfl (Nat.le_of_ble_eq_true rfl) ⟨(Nat.le_of_ble_eq_true rfl), (Nat.le_of_ble_eq_true rfl)⟩ rfl rfl (Nat.le_of_ble_eq_true rfl) (Nat.le_of_ble_eq_true rfl) (fun r9 J_59 hq9 => ?_)
        obtain ⟨z_59, rfl, hz_59, f9, -⟩ := hq9
        exact tz_iret (pc := 62) (z := z_59) dX11_bind_62 rfl (Nat.le_of_ble_eq_true rfl) (Nat.le_of_ble_eq_true rfl) ⟨Nat.le_refl _, Nat.le_add_right _ _⟩ ⟨_, rfl, (by omega), (SQ.cq ⟨⟨m, hI.st f9⟩, f9 145 rfl, f9 0 rfl, (f9.mono (fun c hc => by have := of_decide_eq_true hc; simp [zbut]; omega))⟩ (by omega) rfl zOf.rf)⟩
    · refine tz_aload_n (pc := 12) dX11_bind_12 rfl rfl ?_
      refine tz_fR (pc := 13) dX11_bind_13 fl_X11_29 r_0_1 ?_
      refine tz_fR (pc := 16) dX11_bind_16 fl_X11_49 r_5_0 ?_
      refine tz_iload_n (pc := 19) dX11_bind_19 rfl rfl ?_
      refine tz_cV (pc := 20) (c_has hl n _ _ (by omega)) vl_X11_304 dX11_bind_20 o_6 rfl rfl (Nat.le_of_ble_eq_true rfl) ⟨(Nat.le_of_ble_eq_true rfl), (Nat.le_of_ble_eq_true rfl)⟩ rfl rfl (Nat.le_of_ble_eq_true rfl) (Nat.le_of_ble_eq_true rfl) (fun r9 J_20 hq9 => ?_)
      obtain ⟨z_20, rfl, hz_20, rfl, rfl⟩ := hq9
      by_cases hw_23 : 0 ≤ t ∧ t < J 6 12
      · rw [show (if 0 ≤ t ∧ t < J 6 12 then 1 else 0 : Int) = 1 from if_pos hw_23]
        refine tz_if_neT (pc := 23) (tgt := 34) (by decide) dX11_bind_23 (by decide) (by decide) ?_
        refine tz_aload_n (pc := 34) dX11_bind_34 rfl rfl ?_
        refine tz_fR (pc := 35) dX11_bind_35 fl_X11_29 r_0_1 ?_
        refine tz_fR (pc := 38) dX11_bind_38 fl_X11_156 r_5_1 ?_
        refine tz_fR (pc := 41) dX11_bind_41 fl_X11_167 r_18_0 ?_
        refine tz_bipush (pc := 44) dX11_bind_44 (by decide) ?_
        refine tz_iload_n (pc := 46) dX11_bind_46 rfl rfl ?_
        refine tz_iadd (pc := 47) (v := 7 + x) dX11_bind_47 rfl ?_
        have hq := hL.2.1 x (by omega) (by omega)
        refine tz_aL (pc := 48) (z := (7 + x)) (v := (J 19 (7 + x))) dX11_bind_48 a_19 rfl (by omega) rfl (fun r_48 => ?_)
        refine tz_istore_n (pc := 49) (L2 := [_, _, _, _]) dX11_bind_49 rfl (by decide) rfl ?_
        refine tz_iload_n (pc := 50) dX11_bind_50 rfl rfl ?_
        refine tz_iload_n (pc := 51) dX11_bind_51 rfl rfl ?_
        refine tz_icmp_ne (pc := 52) (tgt := 63) dX11_bind_52 (by decide) (by omega) (by omega) (fun h_52 => ?_) (fun h_52 => ?_)
        · refine tz_aload_n (pc := 63) dX11_bind_63 rfl rfl ?_
          refine tz_fR (pc := 64) dX11_bind_64 fl_X11_29 r_0_1 ?_
          refine tz_cV (pc := 67) (c_begin hl n _) vl_X11_287 dX11_bind_67 o_5 rfl rfl (Nat.le_of_ble_eq_true rfl) ⟨(Nat.le_of_ble_eq_true rfl), (Nat.le_of_ble_eq_true rfl)⟩ rfl rfl (Nat.le_of_ble_eq_true rfl) (Nat.le_of_ble_eq_true rfl) (fun r9 Jb hq9 => ?_)
          obtain ⟨rfl, hj⟩ := hq9
          have hb9 : zOf (zbut [19, 61]) Jb J := by rw [← hj]; exact zOf.cp rfl (zOf.up rfl zOf.rf)
          have hb19 : ∀ k, ¬ k = 0 → Jb 19 k = J 19 k := fun k hk => by rw [← hj, zcp_nc (by decide), zup_ne hk]
          have a0 : AC Jb m m := by rw [← hj]; exact hI.begin
          have hb6 := a0.1.1.2.1
          refine tz_aload_n (pc := 70) dX11_bind_70 rfl rfl ?_
          refine tz_fR (pc := 71) dX11_bind_71 fl_X11_29 r_0_1 ?_
          refine tz_fR (pc := 74) dX11_bind_74 fl_X11_156 r_5_1 ?_
          refine tz_fR (pc := 77) dX11_bind_77 fl_X11_167 r_18_0 ?_
          refine tz_bipush (pc := 80) dX11_bind_80 (by decide) ?_
          refine tz_iload_n (pc := 82) dX11_bind_82 rfl rfl ?_
          refine tz_iadd (pc := 83) (v := 7 + x) dX11_bind_83 rfl ?_
          refine tz_iload_n (pc := 84) dX11_bind_84 rfl rfl ?_
          refine tz_aS (pc := 85) (z := (7 + x)) dX11_bind_85 a_19 rfl (by omega) (by omega) ?_
          have fw : zOf (zbut [19]) (zup Jb 19 (7 + x) t) Jb := zOf.up rfl zOf.rf
          have a1 : AC (zup Jb 19 (7 + x) t) m m := a0.led fw (a0.1.1.2.2.bind (by omega) (by omega))
          refine tz_aload_n (pc := 86) dX11_bind_86 rfl rfl ?_
          refine tz_fR (pc := 87) dX11_bind_87 fl_X11_29 r_0_1 ?_
          refine tz_cV (pc := 90) (c_keep hl n _ m m a1) vl_X11_305 dX11_bind_90 o_5 rfl rfl (Nat.le_of_ble_eq_true rfl) ⟨(Nat.le_of_ble_eq_true rfl), (Nat.le_of_ble_eq_true rfl)⟩ rfl rfl (Nat.le_of_ble_eq_true rfl) (Nat.le_of_ble_eq_true rfl) (fun r9 Jk hq9 => ?_)
          obtain ⟨rfl, k9⟩ := hq9
          refine tz_iload_n (pc := 93) dX11_bind_93 rfl rfl ?_
          exact tz_iret (pc := 94) (z := (J 19 (7 + x))) dX11_bind_94 rfl (Nat.le_of_ble_eq_true rfl) (Nat.le_of_ble_eq_true rfl) ⟨Nat.le_refl _, Nat.le_add_right _ _⟩ ⟨_, rfl, (by omega), (CQ.k k9 (by rw [fw 145 rfl, hb9 145 rfl]; omega) ((fw 0 rfl).trans (hb9 0 rfl)) ((fw.mono (fun c hc => by have := of_decide_eq_true hc; simp [zbut]; omega)).tr (hb9.mono (fun c hc => by have := of_decide_eq_true hc; simp [zbut]; omega))))⟩
        · refine tz_aload_n (pc := 55) dX11_bind_55 rfl rfl ?_
          refine tz_iconst (pc := 56) dX11_bind_56 ?_
          refine tz_bipush (pc := 57) dX11_bind_57 (by decide) ?_
          refine tz_cV (pc := 59) (c_refused hl n _ _ _ (by decide) (by omega) (by decide)) vl_X11_284 dX11_bind_59 o_0 rfl rfl (Nat.le_of_ble_eq_true rfl) ⟨(Nat.le_of_ble_eq_true rfl), (Nat.le_of_ble_eq_true rfl)⟩ rfl rfl (Nat.le_of_ble_eq_true rfl) (Nat.le_of_ble_eq_true rfl) (fun r9 J_59 hq9 => ?_)
          obtain ⟨z_59, rfl, hz_59, f9, -⟩ := hq9
          exact tz_iret (pc := 62) (z := z_59) dX11_bind_62 rfl (Nat.le_of_ble_eq_true rfl) (Nat.le_of_ble_eq_true rfl) ⟨Nat.le_refl _, Nat.le_add_right _ _⟩ ⟨_, rfl, (by omega), (SQ.cq ⟨⟨m, hI.st f9⟩, f9 145 rfl, f9 0 rfl, (f9.mono (fun c hc => by have := of_decide_eq_true hc; simp [zbut]; omega))⟩ (by omega) rfl zOf.rf)⟩
      · rw [show (if 0 ≤ t ∧ t < J 6 12 then 1 else 0 : Int) = 0 from if_neg hw_23]
        refine tz_if_neF (pc := 23) (tgt := 34) (by decide) dX11_bind_23 (by decide) (by decide) ?_
        refine tz_aload_n (pc := 26) dX11_bind_26 rfl rfl ?_
        refine tz_iconst (pc := 27) dX11_bind_27 ?_
        refine tz_bipush (pc := 28) dX11_bind_28 (by decide) ?_
        refine tz_cV (pc := 30) (c_refused hl n _ _ _ (by decide) (by omega) (by decide)) vl_X11_284 dX11_bind_30 o_0 rfl rfl (Nat.le_of_ble_eq_true rfl) ⟨(Nat.le_of_ble_eq_true rfl), (Nat.le_of_ble_eq_true rfl)⟩ rfl rfl (Nat.le_of_ble_eq_true rfl) (Nat.le_of_ble_eq_true rfl) (fun r9 J_30 hq9 => ?_)
        obtain ⟨z_30, rfl, hz_30, f9, -⟩ := hq9
        exact tz_iret (pc := 33) (z := z_30) dX11_bind_33 rfl (Nat.le_of_ble_eq_true rfl) (Nat.le_of_ble_eq_true rfl) ⟨Nat.le_refl _, Nat.le_add_right _ _⟩ ⟨_, rfl, (by omega), (SQ.cq ⟨⟨m, hI.st f9⟩, f9 145 rfl, f9 0 rfl, (f9.mono (fun c hc => by have := of_decide_eq_true hc; simp [zbut]; omega))⟩ (by omega) rfl zOf.rf)⟩
  · rw [show (if 0 ≤ x ∧ x < 8 then 1 else 0 : Int) = 0 from if_neg hw_4]
    refine tz_if_eqT (pc := 4) (tgt := 26) (by decide) dX11_bind_4 (by decide) (by decide) ?_
    refine tz_aload_n (pc := 26) dX11_bind_26 rfl rfl ?_
    refine tz_iconst (pc := 27) dX11_bind_27 ?_
    refine tz_bipush (pc := 28) dX11_bind_28 (by decide) ?_
    refine tz_cV (pc := 30) (c_refused hl n _ _ _ (by decide) (by omega) (by decide)) vl_X11_284 dX11_bind_30 o_0 rfl rfl (Nat.le_of_ble_eq_true rfl) ⟨(Nat.le_of_ble_eq_true rfl), (Nat.le_of_ble_eq_true rfl)⟩ rfl rfl (Nat.le_of_ble_eq_true rfl) (Nat.le_of_ble_eq_true rfl) (fun r9 J_30 hq9 => ?_)
    obtain ⟨z_30, rfl, hz_30, f9, -⟩ := hq9
    exact tz_iret (pc := 33) (z := z_30) dX11_bind_33 rfl (Nat.le_of_ble_eq_true rfl) (Nat.le_of_ble_eq_true rfl) ⟨Nat.le_refl _, Nat.le_add_right _ _⟩ ⟨_, rfl, (by omega), (SQ.cq ⟨⟨m, hI.st f9⟩, f9 145 rfl, f9 0 rfl, (f9.mono (fun c hc => by have := of_decide_eq_true hc; simp [zbut]; omega))⟩ (by omega) rfl zOf.rf)⟩

set_option maxHeartbeats 4000000 in
set_option maxRecDepth 100000 in
theorem t_match {l : Launch} {G : tb_G} (hl : l.stackTraces = false) (n : Nat) (J : zJ) (s : Int) (t : Int) (hr_s : -2147483648 ≤ s ∧ s < 2147483648) (hr_t : -2147483648 ≤ t ∧ t < 2147483648) (m : Int) (hI : CI J m) (h9 : J 145 10 < 1000000000) : tz_Ok l G M_X11_match 8 0 0 [.ref 0, zi s, zi t] n J (zqi (fun z J' => CQ J' J)) zN := by
  refine tz_Ok.of hl (by decide +kernel) rfl (tb_c1 rfl) (Nat.le_of_ble_eq_true rfl) ?_
  show tz_At l G M_X11_match (tb_rm 8 0 0) none (tb_ZM G 0 0 (zQ n 0 (zqi (fun z J' => CQ J' J))) (zX n 0 zN)) 0 0 n J 0 [some (.ref 0), some (zi s), some (zi t)] []
  have hC := hI.1.1.1
  have hm := hI.1.1.2.1
  have hL := hI.1.1.2.2
  have hb := hC.told
  refine tz_aload_n (pc := 0) dX11_match_0 rfl rfl ?_
  refine tz_fR (pc := 1) dX11_match_1 fl_X11_29 r_0_1 ?_
  refine tz_fR (pc := 4) dX11_match_4 fl_X11_49 r_5_0 ?_
  refine tz_iload_n (pc := 7) dX11_match_7 rfl rfl ?_
  refine tz_cV (pc := 8) (c_has hl n _ _ (by omega)) vl_X11_304 dX11_match_8 o_6 rfl rfl (Nat.le_of_ble_eq_true rfl) ⟨(Nat.le_of_ble_eq_true rfl), (Nat.le_of_ble_eq_true rfl)⟩ rfl rfl (Nat.le_of_ble_eq_true rfl) (Nat.le_of_ble_eq_true rfl) (fun r9 J_8 hq9 => ?_)
  obtain ⟨z_8, rfl, hz_8, rfl, rfl⟩ := hq9
  by_cases hw_11 : 0 ≤ s ∧ s < J 6 12
  · rw [show (if 0 ≤ s ∧ s < J 6 12 then 1 else 0 : Int) = 1 from if_pos hw_11]
    refine tz_if_eqF (pc := 11) (tgt := 28) (by decide) dX11_match_11 (by decide) (by decide) ?_
    refine tz_aload_n (pc := 14) dX11_match_14 rfl rfl ?_
    refine tz_fR (pc := 15) dX11_match_15 fl_X11_29 r_0_1 ?_
    refine tz_fR (pc := 18) dX11_match_18 fl_X11_49 r_5_0 ?_
    refine tz_iload_n (pc := 21) dX11_match_21 rfl rfl ?_
    refine tz_cV (pc := 22) (c_has hl n _ _ (by omega)) vl_X11_304 dX11_match_22 o_6 rfl rfl (Nat.le_of_ble_eq_true rfl) ⟨(Nat.le_of_ble_eq_true rfl), (Nat.le_of_ble_eq_true rfl)⟩ rfl rfl (Nat.le_of_ble_eq_true rfl) (Nat.le_of_ble_eq_true rfl) (fun r9 J_22 hq9 => ?_)
    obtain ⟨z_22, rfl, hz_22, rfl, rfl⟩ := hq9
    by_cases hw_25 : 0 ≤ t ∧ t < J 6 12
    · rw [show (if 0 ≤ t ∧ t < J 6 12 then 1 else 0 : Int) = 1 from if_pos hw_25]
      refine tz_if_neT (pc := 25) (tgt := 35) (by decide) dX11_match_25 (by decide) (by decide) ?_
      refine tz_aload_n (pc := 35) dX11_match_35 rfl rfl ?_
      refine tz_fR (pc := 36) dX11_match_36 fl_X11_55 r_0_6 ?_
      refine tz_iload_n (pc := 39) dX11_match_39 rfl rfl ?_
      refine tz_iload_n (pc := 40) dX11_match_40 rfl rfl ?_
      refine tz_cV (pc := 41) (c_matches hl n _ _ _ (by omega) (by omega) m hC (by omega) (by omega)) vl_X11_326 dX11_match_41 o_139 rfl rfl (Nat.le_of_ble_eq_true rfl) ⟨(Nat.le_of_ble_eq_true rfl), (Nat.le_of_ble_eq_true rfl)⟩ rfl rfl (Nat.le_of_ble_eq_true rfl) (Nat.le_of_ble_eq_true rfl) (fun r9 J1 hq9 => ?_)
      obtain ⟨zc, rfl, hz_41, q1, q2, q3⟩ := hq9
      have hw1 := hI.work q2 rfl
      have hI1 := hw1.1
      refine tz_if_ne (pc := 44) (tgt := 54) dX11_match_44 (by decide) (by omega) (fun h_44 => ?_) (fun h_44 => ?_)
      · refine tz_aload_n (pc := 54) dX11_match_54 rfl rfl ?_
        refine tz_fR (pc := 55) dX11_match_55 fl_X11_29 r_0_1 ?_
        refine tz_cV (pc := 58) (c_begin hl n _) vl_X11_287 dX11_match_58 o_5 rfl rfl (Nat.le_of_ble_eq_true rfl) ⟨(Nat.le_of_ble_eq_true rfl), (Nat.le_of_ble_eq_true rfl)⟩ rfl rfl (Nat.le_of_ble_eq_true rfl) (Nat.le_of_ble_eq_true rfl) (fun r9 Jb hq9 => ?_)
        obtain ⟨rfl, hj⟩ := hq9
        have hb9 : zOf (zbut [19, 61]) Jb J1 := by rw [← hj]; exact zOf.cp rfl (zOf.up rfl zOf.rf)
        have hb19 : ∀ k, ¬ k = 0 → Jb 19 k = J1 19 k := fun k hk => by rw [← hj, zcp_nc (by decide), zup_ne hk]
        have a0 : AC Jb m m := by rw [← hj]; exact hI1.begin
        have hb6 := a0.1.1.2.1
        refine tz_aload_n (pc := 61) dX11_match_61 rfl rfl ?_
        refine tz_fR (pc := 62) dX11_match_62 fl_X11_55 r_0_6 ?_
        refine tz_fR (pc := 65) dX11_match_65 fl_X11_329 r_139_1 ?_
        refine tz_iconst (pc := 68) dX11_match_68 ?_
        refine tz_aload_n (pc := 69) dX11_match_69 rfl rfl ?_
        refine tz_fR (pc := 70) dX11_match_70 fl_X11_29 r_0_1 ?_
        refine tz_fR (pc := 73) dX11_match_73 fl_X11_156 r_5_1 ?_
        refine tz_fR (pc := 76) dX11_match_76 fl_X11_167 r_18_0 ?_
        refine tz_bipush (pc := 79) dX11_match_79 (by decide) ?_
        refine tz_bipush (pc := 81) dX11_match_81 (by decide) ?_
        refine tz_cp (pc := 83) (sp := 0) (dp := 7) (ln := 8) dX11_match_83 ml_X11_332 a_140 a_19 rfl rfl (by decide) (Nat.le_of_ble_eq_true rfl) (by decide +kernel) ?_
        have fw : zOf (zbut [19]) (zcp Jb 140 19 0 7 8) Jb := zOf.cp rfl zOf.rf
        have a1 : AC (zcp Jb 140 19 0 7 8) m m := a0.led fw (a0.1.1.2.2.got (by rw [hb9 140 rfl]; exact q3))
        refine tz_aload_n (pc := 86) dX11_match_86 rfl rfl ?_
        refine tz_fR (pc := 87) dX11_match_87 fl_X11_29 r_0_1 ?_
        refine tz_cV (pc := 90) (c_keep hl n _ m m a1) vl_X11_305 dX11_match_90 o_5 rfl rfl (Nat.le_of_ble_eq_true rfl) ⟨(Nat.le_of_ble_eq_true rfl), (Nat.le_of_ble_eq_true rfl)⟩ rfl rfl (Nat.le_of_ble_eq_true rfl) (Nat.le_of_ble_eq_true rfl) (fun r9 Jk hq9 => ?_)
        obtain ⟨rfl, k9⟩ := hq9
        refine tz_iconst (pc := 93) dX11_match_93 ?_
        exact tz_iret (pc := 94) (z := 1) dX11_match_94 rfl (Nat.le_of_ble_eq_true rfl) (Nat.le_of_ble_eq_true rfl) ⟨Nat.le_refl _, Nat.le_add_right _ _⟩ ⟨_, rfl, (by decide), (CQ.k k9 (by rw [fw 145 rfl, hb9 145 rfl, hw1.2.1]; omega) ((fw 0 rfl).trans ((hb9 0 rfl).trans hw1.2.2.1)) ((fw.mono (fun c hc => by have := of_decide_eq_true hc; simp [zbut]; omega)).tr ((hb9.mono (fun c hc => by have := of_decide_eq_true hc; simp [zbut]; omega)).tr hw1.2.2.2)))⟩
      · refine tz_aload_n (pc := 47) dX11_match_47 rfl rfl ?_
        refine tz_iconst (pc := 48) dX11_match_48 ?_
        refine tz_iconst (pc := 49) dX11_match_49 ?_
        refine tz_cV (pc := 50) (c_refused hl n _ _ _ (by decide) (by omega) (by decide)) vl_X11_284 dX11_match_50 o_0 rfl rfl (Nat.le_of_ble_eq_true rfl) ⟨(Nat.le_of_ble_eq_true rfl), (Nat.le_of_ble_eq_true rfl)⟩ rfl rfl (Nat.le_of_ble_eq_true rfl) (Nat.le_of_ble_eq_true rfl) (fun r9 J_50 hq9 => ?_)
        obtain ⟨z_50, rfl, hz_50, f9, -⟩ := hq9
        exact tz_iret (pc := 53) (z := z_50) dX11_match_53 rfl (Nat.le_of_ble_eq_true rfl) (Nat.le_of_ble_eq_true rfl) ⟨Nat.le_refl _, Nat.le_add_right _ _⟩ ⟨_, rfl, (by omega), (SQ.cq ⟨⟨m, hI1.st f9⟩, f9 145 rfl, f9 0 rfl, (f9.mono (fun c hc => by have := of_decide_eq_true hc; simp [zbut]; omega))⟩ (by rw [hw1.2.1]; omega) hw1.2.2.1 hw1.2.2.2)⟩
    · rw [show (if 0 ≤ t ∧ t < J 6 12 then 1 else 0 : Int) = 0 from if_neg hw_25]
      refine tz_if_neF (pc := 25) (tgt := 35) (by decide) dX11_match_25 (by decide) (by decide) ?_
      refine tz_aload_n (pc := 28) dX11_match_28 rfl rfl ?_
      refine tz_iconst (pc := 29) dX11_match_29 ?_
      refine tz_iconst (pc := 30) dX11_match_30 ?_
      refine tz_cV (pc := 31) (c_refused hl n _ _ _ (by decide) (by omega) (by decide)) vl_X11_284 dX11_match_31 o_0 rfl rfl (Nat.le_of_ble_eq_true rfl) ⟨(Nat.le_of_ble_eq_true rfl), (Nat.le_of_ble_eq_true rfl)⟩ rfl rfl (Nat.le_of_ble_eq_true rfl) (Nat.le_of_ble_eq_true rfl) (fun r9 J_31 hq9 => ?_)
      obtain ⟨z_31, rfl, hz_31, f9, -⟩ := hq9
      exact tz_iret (pc := 34) (z := z_31) dX11_match_34 rfl (Nat.le_of_ble_eq_true rfl) (Nat.le_of_ble_eq_true rfl) ⟨Nat.le_refl _, Nat.le_add_right _ _⟩ ⟨_, rfl, (by omega), (SQ.cq ⟨⟨m, hI.st f9⟩, f9 145 rfl, f9 0 rfl, (f9.mono (fun c hc => by have := of_decide_eq_true hc; simp [zbut]; omega))⟩ (by omega) rfl zOf.rf)⟩
  · rw [show (if 0 ≤ s ∧ s < J 6 12 then 1 else 0 : Int) = 0 from if_neg hw_11]
    refine tz_if_eqT (pc := 11) (tgt := 28) (by decide) dX11_match_11 (by decide) (by decide) ?_
    refine tz_aload_n (pc := 28) dX11_match_28 rfl rfl ?_
    refine tz_iconst (pc := 29) dX11_match_29 ?_
    refine tz_iconst (pc := 30) dX11_match_30 ?_
    refine tz_cV (pc := 31) (c_refused hl n _ _ _ (by decide) (by omega) (by decide)) vl_X11_284 dX11_match_31 o_0 rfl rfl (Nat.le_of_ble_eq_true rfl) ⟨(Nat.le_of_ble_eq_true rfl), (Nat.le_of_ble_eq_true rfl)⟩ rfl rfl (Nat.le_of_ble_eq_true rfl) (Nat.le_of_ble_eq_true rfl) (fun r9 J_31 hq9 => ?_)
    obtain ⟨z_31, rfl, hz_31, f9, -⟩ := hq9
    exact tz_iret (pc := 34) (z := z_31) dX11_match_34 rfl (Nat.le_of_ble_eq_true rfl) (Nat.le_of_ble_eq_true rfl) ⟨Nat.le_refl _, Nat.le_add_right _ _⟩ ⟨_, rfl, (by omega), (SQ.cq ⟨⟨m, hI.st f9⟩, f9 145 rfl, f9 0 rfl, (f9.mono (fun c hc => by have := of_decide_eq_true hc; simp [zbut]; omega))⟩ (by omega) rfl zOf.rf)⟩

set_option maxHeartbeats 4000000 in
set_option maxRecDepth 100000 in
theorem t_rules {l : Launch} {G : tb_G} (hl : l.stackTraces = false) (n : Nat) (J : zJ) (x : Int) (y : Int) (hr_x : -2147483648 ≤ x ∧ x < 2147483648) (hr_y : -2147483648 ≤ y ∧ y < 2147483648) (m : Int) (hI : CI J m) (h9 : J 145 10 < 1000000000) : tz_Ok l G M_X11_rules 10 0 0 [.ref 0, zi x, zi y] n J (zqi (fun z J' => CQ J' J)) zN := by
  refine tz_Ok.of hl (by decide +kernel) rfl (tb_c1 rfl) (Nat.le_of_ble_eq_true rfl) ?_
  show tz_At l G M_X11_rules (tb_rm 10 0 0) none (tb_ZM G 0 0 (zQ n 0 (zqi (fun z J' => CQ J' J))) (zX n 0 zN)) 0 0 n J 0 [some (.ref 0), some (zi x), some (zi y), none] []
  have hC := hI.1.1.1
  have hm := hI.1.1.2.1
  have hL := hI.1.1.2.2
  have hb := hC.told
  have h4 := hL.1.2.1
  refine tz_aload_n (pc := 0) dX11_rules_0 rfl rfl ?_
  refine tz_fR (pc := 1) dX11_rules_1 fl_X11_29 r_0_1 ?_
  refine tz_fR (pc := 4) dX11_rules_4 fl_X11_156 r_5_1 ?_
  refine tz_astore_n (pc := 7) (L2 := [_, _, _, _]) dX11_rules_7 rfl (by decide) rfl ?_
  refine tz_aload_n (pc := 8) dX11_rules_8 rfl rfl ?_
  refine tz_fR (pc := 9) dX11_rules_9 fl_X11_167 r_18_0 ?_
  refine tz_iconst (pc := 12) dX11_rules_12 ?_
  refine tz_aL (pc := 13) (z := 4) (v := (J 19 4)) dX11_rules_13 a_19 rfl (by decide) rfl (fun r_13 => ?_)
  refine tz_bipush (pc := 14) dX11_rules_14 (by decide) ?_
  refine tz_icmp_ge (pc := 16) (tgt := 31) dX11_rules_16 (by decide) (by omega) (by decide) (fun h_16 => ?_) (fun h_16 => ?_)
  · refine tz_aload_n (pc := 31) dX11_rules_31 rfl rfl ?_
    refine tz_iconst (pc := 32) dX11_rules_32 ?_
    refine tz_iconst (pc := 33) dX11_rules_33 ?_
    refine tz_cV (pc := 34) (c_refused hl n _ _ _ (by decide) (by omega) (by decide)) vl_X11_284 dX11_rules_34 o_0 rfl rfl (Nat.le_of_ble_eq_true rfl) ⟨(Nat.le_of_ble_eq_true rfl), (Nat.le_of_ble_eq_true rfl)⟩ rfl rfl (Nat.le_of_ble_eq_true rfl) (Nat.le_of_ble_eq_true rfl) (fun r9 J_34 hq9 => ?_)
    obtain ⟨z_34, rfl, hz_34, f9, -⟩ := hq9
    exact tz_iret (pc := 37) (z := z_34) dX11_rules_37 rfl (Nat.le_of_ble_eq_true rfl) (Nat.le_of_ble_eq_true rfl) ⟨Nat.le_refl _, Nat.le_add_right _ _⟩ ⟨_, rfl, (by omega), (SQ.cq ⟨⟨m, hI.st f9⟩, f9 145 rfl, f9 0 rfl, (f9.mono (fun c hc => by have := of_decide_eq_true hc; simp [zbut]; omega))⟩ (by omega) rfl zOf.rf)⟩
  · refine tz_aload_n (pc := 19) dX11_rules_19 rfl rfl ?_
    refine tz_fR (pc := 20) dX11_rules_20 fl_X11_81 r_0_9 ?_
    refine tz_iload_n (pc := 23) dX11_rules_23 rfl rfl ?_
    refine tz_iload_n (pc := 24) dX11_rules_24 rfl rfl ?_
    refine tz_cV (pc := 25) (c_isRule hl n _ _ _ (by omega) (by omega) m hC hm) vl_X11_353 dX11_rules_25 o_155 rfl rfl (Nat.le_of_ble_eq_true rfl) ⟨(Nat.le_of_ble_eq_true rfl), (Nat.le_of_ble_eq_true rfl)⟩ rfl rfl (Nat.le_of_ble_eq_true rfl) (Nat.le_of_ble_eq_true rfl) (fun r9 J1 hq9 => ?_)
    obtain ⟨zc, rfl, hz_25, q1, q2, q3, q4⟩ := hq9
    have hw1 := hI.work6 q2 rfl (q4.trans hI.1.2.2.1.2)
    have hI1 := hw1.1
    refine tz_if_ne (pc := 28) (tgt := 38) dX11_rules_28 (by decide) (by omega) (fun h_28 => ?_) (fun h_28 => ?_)
    · refine tz_aload_n (pc := 38) dX11_rules_38 rfl rfl ?_
      refine tz_fR (pc := 39) dX11_rules_39 fl_X11_29 r_0_1 ?_
      refine tz_cV (pc := 42) (c_begin hl n _) vl_X11_287 dX11_rules_42 o_5 rfl rfl (Nat.le_of_ble_eq_true rfl) ⟨(Nat.le_of_ble_eq_true rfl), (Nat.le_of_ble_eq_true rfl)⟩ rfl rfl (Nat.le_of_ble_eq_true rfl) (Nat.le_of_ble_eq_true rfl) (fun r9 Jb hq9 => ?_)
      obtain ⟨rfl, hj⟩ := hq9
      have hb9 : zOf (zbut [19, 61]) Jb J1 := by rw [← hj]; exact zOf.cp rfl (zOf.up rfl zOf.rf)
      have hb19 : ∀ k, ¬ k = 0 → Jb 19 k = J1 19 k := fun k hk => by rw [← hj, zcp_nc (by decide), zup_ne hk]
      have a0 : AC Jb m m := by rw [← hj]; exact hI1.begin
      have hb6 := a0.1.1.2.1
      refine tz_aload_n (pc := 45) dX11_rules_45 rfl rfl ?_
      refine tz_iload_n (pc := 46) dX11_rules_46 rfl rfl ?_
      refine tz_iload_n (pc := 47) dX11_rules_47 rfl rfl ?_
      refine tz_cV (pc := 48) (c_addRule hl n _ _ _ (by omega) (by omega) a0.1.1.2.2.1.2.1) vl_X11_356 dX11_rules_48 o_18 rfl rfl (Nat.le_of_ble_eq_true rfl) ⟨(Nat.le_of_ble_eq_true rfl), (Nat.le_of_ble_eq_true rfl)⟩ rfl rfl (Nat.le_of_ble_eq_true rfl) (Nat.le_of_ble_eq_true rfl) (fun r9 Jd hq9 => ?_)
      obtain ⟨rfl, hj3⟩ := hq9
      have fw : zOf (zbut [19]) Jd Jb := by rw [← hj3]; exact zof_aR
      have a1 : AC Jd m m := a0.led fw (by rw [← hj3]; exact a0.1.1.2.2.aR (q3 (by omega)).1 (q3 (by omega)).2)
      refine tz_aload_n (pc := 51) dX11_rules_51 rfl rfl ?_
      refine tz_fR (pc := 52) dX11_rules_52 fl_X11_29 r_0_1 ?_
      refine tz_cV (pc := 55) (c_keep hl n _ m m a1) vl_X11_305 dX11_rules_55 o_5 rfl rfl (Nat.le_of_ble_eq_true rfl) ⟨(Nat.le_of_ble_eq_true rfl), (Nat.le_of_ble_eq_true rfl)⟩ rfl rfl (Nat.le_of_ble_eq_true rfl) (Nat.le_of_ble_eq_true rfl) (fun r9 Jk hq9 => ?_)
      obtain ⟨rfl, k9⟩ := hq9
      refine tz_aload_n (pc := 58) dX11_rules_58 rfl rfl ?_
      refine tz_fR (pc := 59) dX11_rules_59 fl_X11_167 r_18_0 ?_
      refine tz_iconst (pc := 62) dX11_rules_62 ?_
      refine tz_aL (pc := 63) (z := 4) (v := (Jd 19 4)) dX11_rules_63 a_19 rfl (by decide) (Eq.trans (congrFun (k9.2 19 rfl) 4) rfl) (fun r_63 => ?_)
      exact tz_iret (pc := 64) (z := (Jd 19 4)) dX11_rules_64 rfl (Nat.le_of_ble_eq_true rfl) (Nat.le_of_ble_eq_true rfl) ⟨Nat.le_refl _, Nat.le_add_right _ _⟩ ⟨_, rfl, (by omega), (CQ.k k9 (by rw [fw 145 rfl, hb9 145 rfl, hw1.2.1]; omega) ((fw 0 rfl).trans ((hb9 0 rfl).trans hw1.2.2.1)) ((fw.mono (fun c hc => by have := of_decide_eq_true hc; simp [zbut]; omega)).tr ((hb9.mono (fun c hc => by have := of_decide_eq_true hc; simp [zbut]; omega)).tr hw1.2.2.2)))⟩
    · refine tz_aload_n (pc := 31) dX11_rules_31 rfl rfl ?_
      refine tz_iconst (pc := 32) dX11_rules_32 ?_
      refine tz_iconst (pc := 33) dX11_rules_33 ?_
      refine tz_cV (pc := 34) (c_refused hl n _ _ _ (by decide) (by omega) (by decide)) vl_X11_284 dX11_rules_34 o_0 rfl rfl (Nat.le_of_ble_eq_true rfl) ⟨(Nat.le_of_ble_eq_true rfl), (Nat.le_of_ble_eq_true rfl)⟩ rfl rfl (Nat.le_of_ble_eq_true rfl) (Nat.le_of_ble_eq_true rfl) (fun r9 J_34 hq9 => ?_)
      obtain ⟨z_34, rfl, hz_34, f9, -⟩ := hq9
      exact tz_iret (pc := 37) (z := z_34) dX11_rules_37 rfl (Nat.le_of_ble_eq_true rfl) (Nat.le_of_ble_eq_true rfl) ⟨Nat.le_refl _, Nat.le_add_right _ _⟩ ⟨_, rfl, (by omega), (SQ.cq ⟨⟨m, hI1.st f9⟩, f9 145 rfl, f9 0 rfl, (f9.mono (fun c hc => by have := of_decide_eq_true hc; simp [zbut]; omega))⟩ (by rw [hw1.2.1]; omega) hw1.2.2.1 hw1.2.2.2)⟩

set_option maxHeartbeats 4000000 in
set_option maxRecDepth 100000 in
theorem t_enter {l : Launch} {G : tb_G} (hl : l.stackTraces = false) (n : Nat) (J : zJ) (t : Int) (hr_t : -2147483648 ≤ t ∧ t < 2147483648) (m : Int) (hI : CI J m) (h9 : J 145 10 < 1000000000) : tz_Ok l G M_X11_enter 2 0 0 [.ref 0, zi t] n J (zqi (fun z J' => CQ J' J)) zN := by
  refine tz_Ok.of hl (by decide +kernel) rfl (tb_c1 rfl) (Nat.le_of_ble_eq_true rfl) ?_
  show tz_At l G M_X11_enter (tb_rm 2 0 0) none (tb_ZM G 0 0 (zQ n 0 (zqi (fun z J' => CQ J' J))) (zX n 0 zN)) 0 0 n J 0 [some (.ref 0), some (zi t), none] []
  have hC := hI.1.1.1
  have hm := hI.1.1.2.1
  have hL := hI.1.1.2.2
  have hb := hC.told
  have h5 := hL.1.2.2.1
  refine tz_aload_n (pc := 0) dX11_enter_0 rfl rfl ?_
  refine tz_fR (pc := 1) dX11_enter_1 fl_X11_29 r_0_1 ?_
  refine tz_fR (pc := 4) dX11_enter_4 fl_X11_156 r_5_1 ?_
  refine tz_astore_n (pc := 7) (L2 := [_, _, _]) dX11_enter_7 rfl (by decide) rfl ?_
  refine tz_aload_n (pc := 8) dX11_enter_8 rfl rfl ?_
  refine tz_fR (pc := 9) dX11_enter_9 fl_X11_29 r_0_1 ?_
  refine tz_fR (pc := 12) dX11_enter_12 fl_X11_49 r_5_0 ?_
  refine tz_iload_n (pc := 15) dX11_enter_15 rfl rfl ?_
  refine tz_cV (pc := 16) (c_has hl n _ _ (by omega)) vl_X11_304 dX11_enter_16 o_6 rfl rfl (Nat.le_of_ble_eq_true rfl) ⟨(Nat.le_of_ble_eq_true rfl), (Nat.le_of_ble_eq_true rfl)⟩ rfl rfl (Nat.le_of_ble_eq_true rfl) (Nat.le_of_ble_eq_true rfl) (fun r9 J_16 hq9 => ?_)
  obtain ⟨z_16, rfl, hz_16, rfl, rfl⟩ := hq9
  by_cases hw_19 : 0 ≤ t ∧ t < J 6 12
  · rw [show (if 0 ≤ t ∧ t < J 6 12 then 1 else 0 : Int) = 1 from if_pos hw_19]
    refine tz_if_eqF (pc := 19) (tgt := 42) (by decide) dX11_enter_19 (by decide) (by decide) ?_
    refine tz_aload_n (pc := 22) dX11_enter_22 rfl rfl ?_
    refine tz_fR (pc := 23) dX11_enter_23 fl_X11_167 r_18_0 ?_
    refine tz_iconst (pc := 26) dX11_enter_26 ?_
    refine tz_aL (pc := 27) (z := 5) (v := (J 19 5)) dX11_enter_27 a_19 rfl (by decide) rfl (fun r_27 => ?_)
    refine tz_bipush (pc := 28) dX11_enter_28 (by decide) ?_
    refine tz_icmp_ge (pc := 30) (tgt := 42) dX11_enter_30 (by decide) (by omega) (by decide) (fun h_30 => ?_) (fun h_30 => ?_)
    · refine tz_aload_n (pc := 42) dX11_enter_42 rfl rfl ?_
      refine tz_iconst (pc := 43) dX11_enter_43 ?_
      refine tz_iconst (pc := 44) dX11_enter_44 ?_
      refine tz_cV (pc := 45) (c_refused hl n _ _ _ (by decide) (by omega) (by decide)) vl_X11_284 dX11_enter_45 o_0 rfl rfl (Nat.le_of_ble_eq_true rfl) ⟨(Nat.le_of_ble_eq_true rfl), (Nat.le_of_ble_eq_true rfl)⟩ rfl rfl (Nat.le_of_ble_eq_true rfl) (Nat.le_of_ble_eq_true rfl) (fun r9 J_45 hq9 => ?_)
      obtain ⟨z_45, rfl, hz_45, f9, -⟩ := hq9
      exact tz_iret (pc := 48) (z := z_45) dX11_enter_48 rfl (Nat.le_of_ble_eq_true rfl) (Nat.le_of_ble_eq_true rfl) ⟨Nat.le_refl _, Nat.le_add_right _ _⟩ ⟨_, rfl, (by omega), (SQ.cq ⟨⟨m, hI.st f9⟩, f9 145 rfl, f9 0 rfl, (f9.mono (fun c hc => by have := of_decide_eq_true hc; simp [zbut]; omega))⟩ (by omega) rfl zOf.rf)⟩
    · refine tz_aload_n (pc := 33) dX11_enter_33 rfl rfl ?_
      refine tz_iload_n (pc := 34) dX11_enter_34 rfl rfl ?_
      refine tz_cV (pc := 35) (c_entryOf hl n _ _ (by omega) h5) vl_X11_241 dX11_enter_35 o_18 rfl rfl (Nat.le_of_ble_eq_true rfl) ⟨(Nat.le_of_ble_eq_true rfl), (Nat.le_of_ble_eq_true rfl)⟩ rfl rfl (Nat.le_of_ble_eq_true rfl) (Nat.le_of_ble_eq_true rfl) (fun r9 J_35 hq9 => ?_)
      obtain ⟨z_35, rfl, hz_35, rfl, -⟩ := hq9
      refine tz_iconst (pc := 38) dX11_enter_38 ?_
      refine tz_icmp_eq (pc := 39) (tgt := 49) dX11_enter_39 (by decide) (by omega) (by decide) (fun h_39 => ?_) (fun h_39 => ?_)
      · refine tz_aload_n (pc := 49) dX11_enter_49 rfl rfl ?_
        refine tz_fR (pc := 50) dX11_enter_50 fl_X11_29 r_0_1 ?_
        refine tz_cV (pc := 53) (c_begin hl n _) vl_X11_287 dX11_enter_53 o_5 rfl rfl (Nat.le_of_ble_eq_true rfl) ⟨(Nat.le_of_ble_eq_true rfl), (Nat.le_of_ble_eq_true rfl)⟩ rfl rfl (Nat.le_of_ble_eq_true rfl) (Nat.le_of_ble_eq_true rfl) (fun r9 Jb hq9 => ?_)
        obtain ⟨rfl, hj⟩ := hq9
        have hb9 : zOf (zbut [19, 61]) Jb J := by rw [← hj]; exact zOf.cp rfl (zOf.up rfl zOf.rf)
        have hb19 : ∀ k, ¬ k = 0 → Jb 19 k = J 19 k := fun k hk => by rw [← hj, zcp_nc (by decide), zup_ne hk]
        have a0 : AC Jb m m := by rw [← hj]; exact hI.begin
        have hb6 := a0.1.1.2.1
        refine tz_aload_n (pc := 56) dX11_enter_56 rfl rfl ?_
        refine tz_iload_n (pc := 57) dX11_enter_57 rfl rfl ?_
        refine tz_cV (pc := 58) (c_addEntry hl n _ _ (by omega) a0.1.1.2.2.1.2.2.1) vl_X11_360 dX11_enter_58 o_18 rfl rfl (Nat.le_of_ble_eq_true rfl) ⟨(Nat.le_of_ble_eq_true rfl), (Nat.le_of_ble_eq_true rfl)⟩ rfl rfl (Nat.le_of_ble_eq_true rfl) (Nat.le_of_ble_eq_true rfl) (fun r9 Jd hq9 => ?_)
        obtain ⟨rfl, hj3⟩ := hq9
        have fw : zOf (zbut [19]) Jd Jb := by rw [← hj3]; exact zof_aE
        have a1 : AC Jd m m := a0.led fw (by rw [← hj3]; exact a0.1.1.2.2.aE (by omega))
        refine tz_aload_n (pc := 61) dX11_enter_61 rfl rfl ?_
        refine tz_fR (pc := 62) dX11_enter_62 fl_X11_29 r_0_1 ?_
        refine tz_cV (pc := 65) (c_keep hl n _ m m a1) vl_X11_305 dX11_enter_65 o_5 rfl rfl (Nat.le_of_ble_eq_true rfl) ⟨(Nat.le_of_ble_eq_true rfl), (Nat.le_of_ble_eq_true rfl)⟩ rfl rfl (Nat.le_of_ble_eq_true rfl) (Nat.le_of_ble_eq_true rfl) (fun r9 Jk hq9 => ?_)
        obtain ⟨rfl, k9⟩ := hq9
        refine tz_aload_n (pc := 68) dX11_enter_68 rfl rfl ?_
        refine tz_fR (pc := 69) dX11_enter_69 fl_X11_167 r_18_0 ?_
        refine tz_iconst (pc := 72) dX11_enter_72 ?_
        refine tz_aL (pc := 73) (z := 5) (v := (Jd 19 5)) dX11_enter_73 a_19 rfl (by decide) (Eq.trans (congrFun (k9.2 19 rfl) 5) rfl) (fun r_73 => ?_)
        exact tz_iret (pc := 74) (z := (Jd 19 5)) dX11_enter_74 rfl (Nat.le_of_ble_eq_true rfl) (Nat.le_of_ble_eq_true rfl) ⟨Nat.le_refl _, Nat.le_add_right _ _⟩ ⟨_, rfl, (by omega), (CQ.k k9 (by rw [fw 145 rfl, hb9 145 rfl]; omega) ((fw 0 rfl).trans (hb9 0 rfl)) ((fw.mono (fun c hc => by have := of_decide_eq_true hc; simp [zbut]; omega)).tr (hb9.mono (fun c hc => by have := of_decide_eq_true hc; simp [zbut]; omega))))⟩
      · refine tz_aload_n (pc := 42) dX11_enter_42 rfl rfl ?_
        refine tz_iconst (pc := 43) dX11_enter_43 ?_
        refine tz_iconst (pc := 44) dX11_enter_44 ?_
        refine tz_cV (pc := 45) (c_refused hl n _ _ _ (by decide) (by omega) (by decide)) vl_X11_284 dX11_enter_45 o_0 rfl rfl (Nat.le_of_ble_eq_true rfl) ⟨(Nat.le_of_ble_eq_true rfl), (Nat.le_of_ble_eq_true rfl)⟩ rfl rfl (Nat.le_of_ble_eq_true rfl) (Nat.le_of_ble_eq_true rfl) (fun r9 J_45 hq9 => ?_)
        obtain ⟨z_45, rfl, hz_45, f9, -⟩ := hq9
        exact tz_iret (pc := 48) (z := z_45) dX11_enter_48 rfl (Nat.le_of_ble_eq_true rfl) (Nat.le_of_ble_eq_true rfl) ⟨Nat.le_refl _, Nat.le_add_right _ _⟩ ⟨_, rfl, (by omega), (SQ.cq ⟨⟨m, hI.st f9⟩, f9 145 rfl, f9 0 rfl, (f9.mono (fun c hc => by have := of_decide_eq_true hc; simp [zbut]; omega))⟩ (by omega) rfl zOf.rf)⟩
  · rw [show (if 0 ≤ t ∧ t < J 6 12 then 1 else 0 : Int) = 0 from if_neg hw_19]
    refine tz_if_eqT (pc := 19) (tgt := 42) (by decide) dX11_enter_19 (by decide) (by decide) ?_
    refine tz_aload_n (pc := 42) dX11_enter_42 rfl rfl ?_
    refine tz_iconst (pc := 43) dX11_enter_43 ?_
    refine tz_iconst (pc := 44) dX11_enter_44 ?_
    refine tz_cV (pc := 45) (c_refused hl n _ _ _ (by decide) (by omega) (by decide)) vl_X11_284 dX11_enter_45 o_0 rfl rfl (Nat.le_of_ble_eq_true rfl) ⟨(Nat.le_of_ble_eq_true rfl), (Nat.le_of_ble_eq_true rfl)⟩ rfl rfl (Nat.le_of_ble_eq_true rfl) (Nat.le_of_ble_eq_true rfl) (fun r9 J_45 hq9 => ?_)
    obtain ⟨z_45, rfl, hz_45, f9, -⟩ := hq9
    exact tz_iret (pc := 48) (z := z_45) dX11_enter_48 rfl (Nat.le_of_ble_eq_true rfl) (Nat.le_of_ble_eq_true rfl) ⟨Nat.le_refl _, Nat.le_add_right _ _⟩ ⟨_, rfl, (by omega), (SQ.cq ⟨⟨m, hI.st f9⟩, f9 145 rfl, f9 0 rfl, (f9.mono (fun c hc => by have := of_decide_eq_true hc; simp [zbut]; omega))⟩ (by omega) rfl zOf.rf)⟩

set_option maxHeartbeats 4000000 in
set_option maxRecDepth 100000 in
theorem t_leave {l : Launch} {G : tb_G} (hl : l.stackTraces = false) (n : Nat) (J : zJ) (t : Int) (hr_t : -2147483648 ≤ t ∧ t < 2147483648) (m : Int) (hI : CI J m) (h9 : J 145 10 < 1000000000) : tz_Ok l G M_X11_leave 2 0 0 [.ref 0, zi t] n J (zqi (fun z J' => CQ J' J)) zN := by
  refine tz_Ok.of hl (by decide +kernel) rfl (tb_c1 rfl) (Nat.le_of_ble_eq_true rfl) ?_
  show tz_At l G M_X11_leave (tb_rm 2 0 0) none (tb_ZM G 0 0 (zQ n 0 (zqi (fun z J' => CQ J' J))) (zX n 0 zN)) 0 0 n J 0 [some (.ref 0), some (zi t), none, none] []
  have hC := hI.1.1.1
  have hm := hI.1.1.2.1
  have hL := hI.1.1.2.2
  have hb := hC.told
  have h5 := hL.1.2.2.1
  refine tz_aload_n (pc := 0) dX11_leave_0 rfl rfl ?_
  refine tz_fR (pc := 1) dX11_leave_1 fl_X11_29 r_0_1 ?_
  refine tz_fR (pc := 4) dX11_leave_4 fl_X11_156 r_5_1 ?_
  refine tz_astore_n (pc := 7) (L2 := [_, _, _, _]) dX11_leave_7 rfl (by decide) rfl ?_
  refine tz_aload_n (pc := 8) dX11_leave_8 rfl rfl ?_
  refine tz_fR (pc := 9) dX11_leave_9 fl_X11_29 r_0_1 ?_
  refine tz_fR (pc := 12) dX11_leave_12 fl_X11_49 r_5_0 ?_
  refine tz_iload_n (pc := 15) dX11_leave_15 rfl rfl ?_
  refine tz_cV (pc := 16) (c_has hl n _ _ (by omega)) vl_X11_304 dX11_leave_16 o_6 rfl rfl (Nat.le_of_ble_eq_true rfl) ⟨(Nat.le_of_ble_eq_true rfl), (Nat.le_of_ble_eq_true rfl)⟩ rfl rfl (Nat.le_of_ble_eq_true rfl) (Nat.le_of_ble_eq_true rfl) (fun r9 J_16 hq9 => ?_)
  obtain ⟨z_16, rfl, hz_16, rfl, rfl⟩ := hq9
  by_cases hw_19 : 0 ≤ t ∧ t < J 6 12
  · rw [show (if 0 ≤ t ∧ t < J 6 12 then 1 else 0 : Int) = 1 from if_pos hw_19]
    refine tz_if_eqF (pc := 19) (tgt := 30) (by decide) dX11_leave_19 (by decide) (by decide) ?_
    refine tz_aload_n (pc := 22) dX11_leave_22 rfl rfl ?_
    refine tz_iload_n (pc := 23) dX11_leave_23 rfl rfl ?_
    refine tz_cV (pc := 24) (c_entryOf hl n _ _ (by omega) h5) vl_X11_241 dX11_leave_24 o_18 rfl rfl (Nat.le_of_ble_eq_true rfl) ⟨(Nat.le_of_ble_eq_true rfl), (Nat.le_of_ble_eq_true rfl)⟩ rfl rfl (Nat.le_of_ble_eq_true rfl) (Nat.le_of_ble_eq_true rfl) (fun r9 J_24 hq9 => ?_)
    obtain ⟨ze, rfl, hz_24, rfl, he9⟩ := hq9
    refine tz_goto (pc := 27) (tgt := 31) dX11_leave_27 (by decide) ?_
    refine tz_istore_n (pc := 31) (L2 := [_, _, _, _]) dX11_leave_31 rfl (by decide) rfl ?_
    refine tz_iload_n (pc := 32) dX11_leave_32 rfl rfl ?_
    refine tz_iconst (pc := 33) dX11_leave_33 ?_
    refine tz_icmp_ne (pc := 34) (tgt := 44) dX11_leave_34 (by decide) (by omega) (by decide) (fun h_34 => ?_) (fun h_34 => ?_)
    · refine tz_aload_n (pc := 44) dX11_leave_44 rfl rfl ?_
      refine tz_fR (pc := 45) dX11_leave_45 fl_X11_29 r_0_1 ?_
      refine tz_cV (pc := 48) (c_begin hl n _) vl_X11_287 dX11_leave_48 o_5 rfl rfl (Nat.le_of_ble_eq_true rfl) ⟨(Nat.le_of_ble_eq_true rfl), (Nat.le_of_ble_eq_true rfl)⟩ rfl rfl (Nat.le_of_ble_eq_true rfl) (Nat.le_of_ble_eq_true rfl) (fun r9 Jb hq9 => ?_)
      obtain ⟨rfl, hj⟩ := hq9
      have hb9 : zOf (zbut [19, 61]) Jb J := by rw [← hj]; exact zOf.cp rfl (zOf.up rfl zOf.rf)
      have hb19 : ∀ k, ¬ k = 0 → Jb 19 k = J 19 k := fun k hk => by rw [← hj, zcp_nc (by decide), zup_ne hk]
      have a0 : AC Jb m m := by rw [← hj]; exact hI.begin
      have hb6 := a0.1.1.2.1
      refine tz_aload_n (pc := 51) dX11_leave_51 rfl rfl ?_
      refine tz_iload_n (pc := 52) dX11_leave_52 rfl rfl ?_
      have he8 : 0 ≤ ze ∧ ze < J 19 5 := by omega
      refine tz_cV (pc := 53) (c_dropEntry hl n _ _ (by omega) (by rw [hb19 5 (by decide)]; omega) a0.1.1.2.2.1.2.2.1.2) vl_X11_363 dX11_leave_53 o_18 rfl rfl (Nat.le_of_ble_eq_true rfl) ⟨(Nat.le_of_ble_eq_true rfl), (Nat.le_of_ble_eq_true rfl)⟩ rfl rfl (Nat.le_of_ble_eq_true rfl) (Nat.le_of_ble_eq_true rfl) (fun r9 Jd hq9 => ?_)
      obtain ⟨rfl, hj3⟩ := hq9
      have fw : zOf (zbut [19]) Jd Jb := by rw [← hj3]; exact zof_dE
      have a1 : AC Jd m m := a0.led fw (by rw [← hj3]; exact a0.1.1.2.2.dE (by rw [hb19 5 (by decide)]; omega))
      refine tz_aload_n (pc := 56) dX11_leave_56 rfl rfl ?_
      refine tz_fR (pc := 57) dX11_leave_57 fl_X11_29 r_0_1 ?_
      refine tz_cV (pc := 60) (c_keep hl n _ m m a1) vl_X11_305 dX11_leave_60 o_5 rfl rfl (Nat.le_of_ble_eq_true rfl) ⟨(Nat.le_of_ble_eq_true rfl), (Nat.le_of_ble_eq_true rfl)⟩ rfl rfl (Nat.le_of_ble_eq_true rfl) (Nat.le_of_ble_eq_true rfl) (fun r9 Jk hq9 => ?_)
      obtain ⟨rfl, k9⟩ := hq9
      refine tz_aload_n (pc := 63) dX11_leave_63 rfl rfl ?_
      refine tz_fR (pc := 64) dX11_leave_64 fl_X11_167 r_18_0 ?_
      refine tz_iconst (pc := 67) dX11_leave_67 ?_
      refine tz_aL (pc := 68) (z := 5) (v := (Jd 19 5)) dX11_leave_68 a_19 rfl (by decide) (Eq.trans (congrFun (k9.2 19 rfl) 5) rfl) (fun r_68 => ?_)
      exact tz_iret (pc := 69) (z := (Jd 19 5)) dX11_leave_69 rfl (Nat.le_of_ble_eq_true rfl) (Nat.le_of_ble_eq_true rfl) ⟨Nat.le_refl _, Nat.le_add_right _ _⟩ ⟨_, rfl, (by omega), (CQ.k k9 (by rw [fw 145 rfl, hb9 145 rfl]; omega) ((fw 0 rfl).trans (hb9 0 rfl)) ((fw.mono (fun c hc => by have := of_decide_eq_true hc; simp [zbut]; omega)).tr (hb9.mono (fun c hc => by have := of_decide_eq_true hc; simp [zbut]; omega))))⟩
    · refine tz_aload_n (pc := 37) dX11_leave_37 rfl rfl ?_
      refine tz_iconst (pc := 38) dX11_leave_38 ?_
      refine tz_iconst (pc := 39) dX11_leave_39 ?_
      refine tz_cV (pc := 40) (c_refused hl n _ _ _ (by decide) (by omega) (by decide)) vl_X11_284 dX11_leave_40 o_0 rfl rfl (Nat.le_of_ble_eq_true rfl) ⟨(Nat.le_of_ble_eq_true rfl), (Nat.le_of_ble_eq_true rfl)⟩ rfl rfl (Nat.le_of_ble_eq_true rfl) (Nat.le_of_ble_eq_true rfl) (fun r9 J_40 hq9 => ?_)
      obtain ⟨z_40, rfl, hz_40, f9, -⟩ := hq9
      exact tz_iret (pc := 43) (z := z_40) dX11_leave_43 rfl (Nat.le_of_ble_eq_true rfl) (Nat.le_of_ble_eq_true rfl) ⟨Nat.le_refl _, Nat.le_add_right _ _⟩ ⟨_, rfl, (by omega), (SQ.cq ⟨⟨m, hI.st f9⟩, f9 145 rfl, f9 0 rfl, (f9.mono (fun c hc => by have := of_decide_eq_true hc; simp [zbut]; omega))⟩ (by omega) rfl zOf.rf)⟩
  · rw [show (if 0 ≤ t ∧ t < J 6 12 then 1 else 0 : Int) = 0 from if_neg hw_19]
    refine tz_if_eqT (pc := 19) (tgt := 30) (by decide) dX11_leave_19 (by decide) (by decide) ?_
    refine tz_iconst (pc := 30) dX11_leave_30 ?_
    refine tz_istore_n (pc := 31) (L2 := [_, _, _, _]) dX11_leave_31 rfl (by decide) rfl ?_
    refine tz_iload_n (pc := 32) dX11_leave_32 rfl rfl ?_
    refine tz_iconst (pc := 33) dX11_leave_33 ?_
    refine tz_icmp_neF (pc := 34) (tgt := 44) (by decide) dX11_leave_34 (by decide) (by decide) (by decide) ?_
    refine tz_aload_n (pc := 37) dX11_leave_37 rfl rfl ?_
    refine tz_iconst (pc := 38) dX11_leave_38 ?_
    refine tz_iconst (pc := 39) dX11_leave_39 ?_
    refine tz_cV (pc := 40) (c_refused hl n _ _ _ (by decide) (by omega) (by decide)) vl_X11_284 dX11_leave_40 o_0 rfl rfl (Nat.le_of_ble_eq_true rfl) ⟨(Nat.le_of_ble_eq_true rfl), (Nat.le_of_ble_eq_true rfl)⟩ rfl rfl (Nat.le_of_ble_eq_true rfl) (Nat.le_of_ble_eq_true rfl) (fun r9 J_40 hq9 => ?_)
    obtain ⟨z_40, rfl, hz_40, f9, -⟩ := hq9
    exact tz_iret (pc := 43) (z := z_40) dX11_leave_43 rfl (Nat.le_of_ble_eq_true rfl) (Nat.le_of_ble_eq_true rfl) ⟨Nat.le_refl _, Nat.le_add_right _ _⟩ ⟨_, rfl, (by omega), (SQ.cq ⟨⟨m, hI.st f9⟩, f9 145 rfl, f9 0 rfl, (f9.mono (fun c hc => by have := of_decide_eq_true hc; simp [zbut]; omega))⟩ (by omega) rfl zOf.rf)⟩

set_option maxHeartbeats 4000000 in
set_option maxRecDepth 100000 in
theorem t_room {l : Launch} {G : tb_G} (hl : l.stackTraces = false) (n : Nat) (J : zJ) (x : Int) (hr_x : -2147483648 ≤ x ∧ x < 2147483648) (m : Int) (hI : CI J m) (h9 : J 145 10 < 1000000000) : tz_Ok l G M_X11_room 2 0 0 [.ref 0, zi x] n J (zqi (fun z J' => CQ J' J)) zN := by
  refine tz_Ok.of hl (by decide +kernel) rfl (tb_c1 rfl) (Nat.le_of_ble_eq_true rfl) ?_
  show tz_At l G M_X11_room (tb_rm 2 0 0) none (tb_ZM G 0 0 (zQ n 0 (zqi (fun z J' => CQ J' J))) (zX n 0 zN)) 0 0 n J 0 [some (.ref 0), some (zi x), none] []
  have hC := hI.1.1.1
  have hm := hI.1.1.2.1
  have hL := hI.1.1.2.2
  have hb := hC.told
  refine tz_iload_n (pc := 0) dX11_room_0 rfl rfl ?_
  refine tz_if_lt (pc := 1) (tgt := 10) dX11_room_1 (by decide) (by omega) (fun h_1 => ?_) (fun h_1 => ?_)
  · refine tz_aload_n (pc := 10) dX11_room_10 rfl rfl ?_
    refine tz_iconst (pc := 11) dX11_room_11 ?_
    refine tz_iconst (pc := 12) dX11_room_12 ?_
    refine tz_cV (pc := 13) (c_refused hl n _ _ _ (by decide) (by omega) (by decide)) vl_X11_284 dX11_room_13 o_0 rfl rfl (Nat.le_of_ble_eq_true rfl) ⟨(Nat.le_of_ble_eq_true rfl), (Nat.le_of_ble_eq_true rfl)⟩ rfl rfl (Nat.le_of_ble_eq_true rfl) (Nat.le_of_ble_eq_true rfl) (fun r9 J_13 hq9 => ?_)
    obtain ⟨z_13, rfl, hz_13, f9, -⟩ := hq9
    exact tz_iret (pc := 16) (z := z_13) dX11_room_16 rfl (Nat.le_of_ble_eq_true rfl) (Nat.le_of_ble_eq_true rfl) ⟨Nat.le_refl _, Nat.le_add_right _ _⟩ ⟨_, rfl, (by omega), (SQ.cq ⟨⟨m, hI.st f9⟩, f9 145 rfl, f9 0 rfl, (f9.mono (fun c hc => by have := of_decide_eq_true hc; simp [zbut]; omega))⟩ (by omega) rfl zOf.rf)⟩
  · refine tz_iload_n (pc := 4) dX11_room_4 rfl rfl ?_
    refine tz_bipush (pc := 5) dX11_room_5 (by decide) ?_
    refine tz_icmp_le (pc := 7) (tgt := 17) dX11_room_7 (by decide) (by omega) (by decide) (fun h_7 => ?_) (fun h_7 => ?_)
    · refine tz_aload_n (pc := 17) dX11_room_17 rfl rfl ?_
      refine tz_fR (pc := 18) dX11_room_18 fl_X11_29 r_0_1 ?_
      refine tz_fR (pc := 21) dX11_room_21 fl_X11_156 r_5_1 ?_
      refine tz_fR (pc := 24) dX11_room_24 fl_X11_167 r_18_0 ?_
      refine tz_iconst (pc := 27) dX11_room_27 ?_
      refine tz_aL (pc := 28) (z := 1) (v := (J 19 1)) dX11_room_28 a_19 rfl (by decide) rfl (fun r_28 => ?_)
      refine tz_istore_n (pc := 29) (L2 := [_, _, _]) dX11_room_29 rfl (by decide) rfl ?_
      refine tz_aload_n (pc := 30) dX11_room_30 rfl rfl ?_
      refine tz_fR (pc := 31) dX11_room_31 fl_X11_29 r_0_1 ?_
      refine tz_cV (pc := 34) (c_begin hl n _) vl_X11_287 dX11_room_34 o_5 rfl rfl (Nat.le_of_ble_eq_true rfl) ⟨(Nat.le_of_ble_eq_true rfl), (Nat.le_of_ble_eq_true rfl)⟩ rfl rfl (Nat.le_of_ble_eq_true rfl) (Nat.le_of_ble_eq_true rfl) (fun r9 Jb hq9 => ?_)
      obtain ⟨rfl, hj⟩ := hq9
      have hb9 : zOf (zbut [19, 61]) Jb J := by rw [← hj]; exact zOf.cp rfl (zOf.up rfl zOf.rf)
      have hb19 : ∀ k, ¬ k = 0 → Jb 19 k = J 19 k := fun k hk => by rw [← hj, zcp_nc (by decide), zup_ne hk]
      have a0 : AC Jb m m := by rw [← hj]; exact hI.begin
      have hb6 := a0.1.1.2.1
      refine tz_aload_n (pc := 37) dX11_room_37 rfl rfl ?_
      refine tz_fR (pc := 38) dX11_room_38 fl_X11_29 r_0_1 ?_
      refine tz_fR (pc := 41) dX11_room_41 fl_X11_156 r_5_1 ?_
      refine tz_iload_n (pc := 44) dX11_room_44 rfl rfl ?_
      refine tz_cV (pc := 45) (c_tellRoom hl n _ _ (by omega)) vl_X11_366 dX11_room_45 o_18 rfl rfl (Nat.le_of_ble_eq_true rfl) ⟨(Nat.le_of_ble_eq_true rfl), (Nat.le_of_ble_eq_true rfl)⟩ rfl rfl (Nat.le_of_ble_eq_true rfl) (Nat.le_of_ble_eq_true rfl) (fun r9 Jd hq9 => ?_)
      obtain ⟨rfl, hj3⟩ := hq9
      have fw : zOf (zbut [19]) Jd Jb := by rw [← hj3]; exact zOf.up rfl (zOf.up rfl zOf.rf)
      have a1 : AC Jd m m := a0.led fw (by rw [← hj3]; exact a0.1.1.2.2.room (by omega))
      refine tz_aload_n (pc := 48) dX11_room_48 rfl rfl ?_
      refine tz_fR (pc := 49) dX11_room_49 fl_X11_29 r_0_1 ?_
      refine tz_cV (pc := 52) (c_keep hl n _ m m a1) vl_X11_305 dX11_room_52 o_5 rfl rfl (Nat.le_of_ble_eq_true rfl) ⟨(Nat.le_of_ble_eq_true rfl), (Nat.le_of_ble_eq_true rfl)⟩ rfl rfl (Nat.le_of_ble_eq_true rfl) (Nat.le_of_ble_eq_true rfl) (fun r9 Jk hq9 => ?_)
      obtain ⟨rfl, k9⟩ := hq9
      refine tz_iload_n (pc := 55) dX11_room_55 rfl rfl ?_
      exact tz_iret (pc := 56) (z := (J 19 1)) dX11_room_56 rfl (Nat.le_of_ble_eq_true rfl) (Nat.le_of_ble_eq_true rfl) ⟨Nat.le_refl _, Nat.le_add_right _ _⟩ ⟨_, rfl, (by omega), (CQ.k k9 (by rw [fw 145 rfl, hb9 145 rfl]; omega) ((fw 0 rfl).trans (hb9 0 rfl)) ((fw.mono (fun c hc => by have := of_decide_eq_true hc; simp [zbut]; omega)).tr (hb9.mono (fun c hc => by have := of_decide_eq_true hc; simp [zbut]; omega))))⟩
    · refine tz_aload_n (pc := 10) dX11_room_10 rfl rfl ?_
      refine tz_iconst (pc := 11) dX11_room_11 ?_
      refine tz_iconst (pc := 12) dX11_room_12 ?_
      refine tz_cV (pc := 13) (c_refused hl n _ _ _ (by decide) (by omega) (by decide)) vl_X11_284 dX11_room_13 o_0 rfl rfl (Nat.le_of_ble_eq_true rfl) ⟨(Nat.le_of_ble_eq_true rfl), (Nat.le_of_ble_eq_true rfl)⟩ rfl rfl (Nat.le_of_ble_eq_true rfl) (Nat.le_of_ble_eq_true rfl) (fun r9 J_13 hq9 => ?_)
      obtain ⟨z_13, rfl, hz_13, f9, -⟩ := hq9
      exact tz_iret (pc := 16) (z := z_13) dX11_room_16 rfl (Nat.le_of_ble_eq_true rfl) (Nat.le_of_ble_eq_true rfl) ⟨Nat.le_refl _, Nat.le_add_right _ _⟩ ⟨_, rfl, (by omega), (SQ.cq ⟨⟨m, hI.st f9⟩, f9 145 rfl, f9 0 rfl, (f9.mono (fun c hc => by have := of_decide_eq_true hc; simp [zbut]; omega))⟩ (by omega) rfl zOf.rf)⟩

set_option maxHeartbeats 4000000 in
set_option maxRecDepth 100000 in
theorem c_undo4 {l : Launch} {G : tb_G} (hl : l.stackTraces = false) (n : Nat) (J : zJ)    (h6 : J 5 6 = 0) : tz_Ok l G M_X0_undoLast 4 0 0 [.ref 5] n J (zqi (fun z J' => -1 = z ∧ J = J')) zN := by
  refine tz_Ok.of hl (by decide +kernel) rfl (tb_c1 rfl) (Nat.le_of_ble_eq_true rfl) ?_
  show tz_At l G M_X0_undoLast (tb_rm 4 0 0) none (tb_ZM G 0 0 (zQ n 0 (zqi (fun z J' => -1 = z ∧ J = J'))) (zX n 0 zN)) 0 0 n J 0 [some (.ref 5)] []
  refine tz_aload_n (pc := 0) dX0_undoLast_0 rfl rfl ?_
  refine tz_fI (pc := 1) (kz := 6) (v := 0) dX0_undoLast_1 fl_X0_29 i_5_6 rfl h6 (fun _ => ?_)
  refine tz_if_neF (pc := 4) (tgt := 9) (by decide) dX0_undoLast_4 (by decide) (by decide) ?_
  refine tz_iconst (pc := 7) dX0_undoLast_7 ?_
  exact tz_iret (pc := 8) (z := (-1)) dX0_undoLast_8 rfl (Nat.le_of_ble_eq_true rfl) (Nat.le_of_ble_eq_true rfl) ⟨Nat.le_refl _, Nat.le_add_right _ _⟩ ⟨_, rfl, (by decide), ⟨rfl, rfl⟩⟩

theorem t_undo0 {l : Launch} {G : tb_G} (hl : l.stackTraces = false) (n : Nat) (J : zJ) (m : Int) (hI : CI J m) : tz_Ok l G M_X0_undoLast 4 0 0 [.ref 5] n J (zqi (fun z J' => CQ J' J)) zN := by
  have hr := hI.2.1
  by_cases h6 : J 5 6 = 0
  · refine (c_undo4 hl n J h6).mono (fun r J' _ h => ?_) (fun E J' _ h => h)
    obtain ⟨z, e1, e2, -, rfl⟩ := h
    exact ⟨z, e1, e2, CQ.rf hI⟩
  · obtain ⟨⟨g1, g2⟩, g3⟩ := hI.2.2 (J 5 6 - 1) (by omega) (by omega)
    refine (c_undoN hl n J m (by omega) hr.1 hI.1.1.1 hI.1.1.2.1 g2).mono (fun r J' _ h => ?_) (fun E J' _ h => h)
    obtain ⟨z, e1, e2, -, f, a, b, c⟩ := h
    refine ⟨z, e1, e2, ⟨_, hI.undo (by omega) f a b c⟩, ?_, (f 0 rfl).trans rfl, (f.mono (fun c hc => by have := of_decide_eq_true hc; simp [zbut]; omega)).tr (zOf.up rfl zOf.rf)⟩
    rw [f 145 rfl]
    show J 145 10 ≤ _
    omega
set_option maxHeartbeats 4000000 in
set_option maxRecDepth 100000 in
theorem t_undo {l : Launch} {G : tb_G} (hl : l.stackTraces = false) (n : Nat) (J : zJ)   (m : Int) (hI : CI J m) (h9 : J 145 10 < 1000000000) : tz_Ok l G M_X11_undo 5 0 0 [.ref 0] n J (zqi (fun z J' => CQ J' J)) zN := by
  refine tz_Ok.of hl (by decide +kernel) rfl (tb_c1 rfl) (Nat.le_of_ble_eq_true rfl) ?_
  show tz_At l G M_X11_undo (tb_rm 5 0 0) none (tb_ZM G 0 0 (zQ n 0 (zqi (fun z J' => CQ J' J))) (zX n 0 zN)) 0 0 n J 0 [some (.ref 0)] []
  refine tz_aload_n (pc := 0) dX11_undo_0 rfl rfl ?_
  refine tz_fR (pc := 1) dX11_undo_1 fl_X11_29 r_0_1 ?_
  refine tz_cV (pc := 4) (t_undo0 hl n _ m hI) vl_X11_375 dX11_undo_4 o_5 rfl rfl (Nat.le_of_ble_eq_true rfl) ⟨(Nat.le_of_ble_eq_true rfl), (Nat.le_of_ble_eq_true rfl)⟩ rfl rfl (Nat.le_of_ble_eq_true rfl) (Nat.le_of_ble_eq_true rfl) (fun r9 J_4 hq9 => ?_)
  obtain ⟨z_4, rfl, hz_4, c9⟩ := hq9
  exact tz_iret (pc := 7) (z := z_4) dX11_undo_7 rfl (Nat.le_of_ble_eq_true rfl) (Nat.le_of_ble_eq_true rfl) ⟨Nat.le_refl _, Nat.le_add_right _ _⟩ ⟨_, rfl, (by omega), c9⟩

set_option maxHeartbeats 4000000 in
set_option maxRecDepth 100000 in
theorem c_lostBy {l : Launch} {G : tb_G} (hl : l.stackTraces = false) (n : Nat) (J : zJ) (s : Int) (y : Int) (hr_s : -2147483648 ≤ s ∧ s < 2147483648) (hr_y : -2147483648 ≤ y ∧ y < 2147483648) (m : Int) (C : CT J m) (hm : J 6 12 = m) (hL : LI (J 19) m) (hy : 0 ≤ y ∧ y ≤ 20) : tz_Ok l G M_X11_lostBy 12 0 0 [.ref 0, zi s, zi y] n J (zqi (fun z J' => ∃ m', GX [19, 140, 141, 158, 159, 160, 161] J' J m m' ∧ LI (J' 19) m')) zN := by
  refine tz_Ok.of hl (by decide +kernel) rfl (tb_c1 rfl) (Nat.le_of_ble_eq_true rfl) ?_
  show tz_At l G M_X11_lostBy (tb_rm 12 0 0) none (tb_ZM G 0 0 (zQ n 0 (zqi (fun z J' => ∃ m', GX [19, 140, 141, 158, 159, 160, 161] J' J m m' ∧ LI (J' 19) m'))) (zX n 0 zN)) 0 0 n J 0 [some (.ref 0), some (zi s), some (zi y), none, none, none, none] []
  refine tz_aload_n (pc := 0) dX11_lostBy_0 rfl rfl ?_
  refine tz_fR (pc := 1) dX11_lostBy_1 fl_X11_62 r_0_7 ?_
  refine tz_iload_n (pc := 4) dX11_lostBy_4 rfl rfl ?_
  refine tz_pI (pc := 5) (kz := 5) dX11_lostBy_5 fl_X11_369 i_141_5 rfl rfl (by omega) ?_
  refine tz_aload_n (pc := 8) dX11_lostBy_8 rfl rfl ?_
  refine tz_fR (pc := 9) dX11_lostBy_9 fl_X11_90 r_0_10 ?_
  refine tz_cV (pc := 12) (c_allow hl n _) vl_X11_344 dX11_lostBy_12 o_158 rfl rfl (Nat.le_of_ble_eq_true rfl) ⟨(Nat.le_of_ble_eq_true rfl), (Nat.le_of_ble_eq_true rfl)⟩ rfl rfl (Nat.le_of_ble_eq_true rfl) (Nat.le_of_ble_eq_true rfl) (fun r9 Jc hq9 => ?_)
  obtain ⟨rfl, hj2⟩ := hq9
  have g0 : GX [19, 140, 141, 158, 159, 160, 161] Jc J m m := (GX.rf C hm).off rfl (by rw [← hj2]; exact zOf.up rfl (zOf.up rfl zOf.rf))
  have l0 : LI (Jc 19) m := by rw [← hj2]; exact hL
  refine tz_iconst (pc := 15) dX11_lostBy_15 ?_
  refine tz_istore_n (pc := 16) (L2 := [_, _, _, _, _, _, _]) dX11_lostBy_16 rfl (by decide) rfl ?_
  refine tz_iconst (pc := 17) dX11_lostBy_17 ?_
  refine tz_istore (pc := 18) (L2 := [_, _, _, _, _, _, _]) dX11_lostBy_18 (by decide) rfl ?_
  have loop20 : ∀ (f9 : Nat) (q : Int) (k : Int) (d5 : Option Value) (d6 : Option Value) (J1 : zJ) (m1 : Int), ((20 - k).toNat) < f9 → ((0 ≤ k ∧ k ≤ y) ∧ (-3300 * k ≤ q ∧ q ≤ 3300 * k)) → (GX [19, 140, 141, 158, 159, 160, 161] J1 J m m1) → (LI (J1 19) m1) → tz_At l G M_X11_lostBy (tb_rm 12 0 0) none (tb_ZM G 0 0 (zQ n 0 (zqi (fun z J' => ∃ m', GX [19, 140, 141, 158, 159, 160, 161] J' J m m' ∧ LI (J' 19) m'))) (zX n 0 zN)) 0 0 n J1 20 [some (.ref 0), some (zi s), some (zi y), some (zi q), some (zi k), d5, d6] [] := by
    intro f9
    induction f9 with
    | zero => intro q k d5 d6 J1 m1 hm9; exact absurd hm9 (Nat.not_lt_zero _)
    | succ f9 ih20 =>
      intro q k d5 d6 J1 m1 hm20 hk g1 l1
      refine tz_iload (pc := 20) dX11_lostBy_20 rfl ?_
      refine tz_iload_n (pc := 22) dX11_lostBy_22 rfl rfl ?_
      refine tz_icmp_ge (pc := 23) (tgt := 100) dX11_lostBy_23 (by decide) (by omega) (by omega) (fun h_23 => ?_) (fun h_23 => ?_)
      · refine tz_iload_n (pc := 100) dX11_lostBy_100 rfl rfl ?_
        exact tz_iret (pc := 101) (z := q) dX11_lostBy_101 rfl (Nat.le_of_ble_eq_true rfl) (Nat.le_of_ble_eq_true rfl) ⟨Nat.le_refl _, Nat.le_add_right _ _⟩ ⟨_, rfl, (by omega), (by first | exact ⟨m3, q3, l3⟩ | exact ⟨m2, q2, l2⟩ | exact ⟨m1, g1, l1⟩)⟩
      · refine tz_aload_n (pc := 26) dX11_lostBy_26 rfl rfl ?_
        refine tz_fR (pc := 27) dX11_lostBy_27 fl_X11_62 r_0_7 ?_
        refine tz_iconst (pc := 30) dX11_lostBy_30 ?_
        refine tz_cV (pc := 31) (c_drawn hl n _ _ (by decide) m1 g1.2.1 g1.2.2.1) vl_X11_372 dX11_lostBy_31 o_141 rfl rfl (Nat.le_of_ble_eq_true rfl) ⟨(Nat.le_of_ble_eq_true rfl), (Nat.le_of_ble_eq_true rfl)⟩ rfl rfl (Nat.le_of_ble_eq_true rfl) (Nat.le_of_ble_eq_true rfl) (fun r9 J2 hq9 => ?_)
        obtain ⟨zd, rfl, hz_31, m2, g2, h2⟩ := hq9
        have q2 : GX [19, 140, 141, 158, 159, 160, 161] J2 J m m2 := g1.tr (g2.mono (fun c hc => by simp at hc ⊢; omega))
        have l2 : LI (J2 19) m2 := by rw [g2.2.2.2.2 19 rfl]; exact l1.mono g2.1
        have t2 := g2.2.1.told
        refine tz_istore (pc := 34) (L2 := [_, _, _, _, _, _, _]) dX11_lostBy_34 (by decide) rfl ?_
        refine tz_iload (pc := 36) dX11_lostBy_36 rfl ?_
        refine tz_if_ge (pc := 38) (tgt := 46) dX11_lostBy_38 (by decide) (by omega) (fun h_38 => ?_) (fun h_38 => ?_)
        · refine tz_aload_n (pc := 46) dX11_lostBy_46 rfl rfl ?_
          refine tz_fR (pc := 47) dX11_lostBy_47 fl_X11_90 r_0_10 ?_
          refine tz_iload (pc := 50) dX11_lostBy_50 rfl ?_
          refine tz_cV (pc := 52) (c_normalOf hl n _ _ (by omega) m2 g2.2.1 g2.2.2.1 l2 (by omega)) vl_X11_347 dX11_lostBy_52 o_158 rfl rfl (Nat.le_of_ble_eq_true rfl) ⟨(Nat.le_of_ble_eq_true rfl), (Nat.le_of_ble_eq_true rfl)⟩ rfl rfl (Nat.le_of_ble_eq_true rfl) (Nat.le_of_ble_eq_true rfl) (fun r9 J3 hq9 => ?_)
          obtain ⟨zn, rfl, hz_52, m3, g3, l3, h3⟩ := hq9
          have q3 : GX [19, 140, 141, 158, 159, 160, 161] J3 J m m3 := q2.tr (g3.mono (fun c hc => by simp at hc ⊢; omega))
          have t3 := g3.2.1.told
          have e3 := g3.1
          refine tz_istore (pc := 55) (L2 := [_, _, _, _, _, _, _]) dX11_lostBy_55 (by decide) rfl ?_
          refine tz_iload (pc := 57) dX11_lostBy_57 rfl ?_
          refine tz_if_ge (pc := 59) (tgt := 64) dX11_lostBy_59 (by decide) (by omega) (fun h_59 => ?_) (fun h_59 => ?_)
          · refine tz_iload_n (pc := 64) dX11_lostBy_64 rfl rfl ?_
            refine tz_aload_n (pc := 65) dX11_lostBy_65 rfl rfl ?_
            refine tz_fR (pc := 66) dX11_lostBy_66 fl_X11_29 r_0_1 ?_
            refine tz_fR (pc := 69) dX11_lostBy_69 fl_X11_49 r_5_0 ?_
            refine tz_fR (pc := 72) dX11_lostBy_72 fl_X11_234 r_6_5 ?_
            refine tz_iload (pc := 75) dX11_lostBy_75 rfl ?_
            have w1 := g3.2.1.nums (t := zd) (by omega) (by omega)
            refine tz_aL (pc := 77) (z := zd) (v := (J3 11 zd)) dX11_lostBy_77 a_11 rfl (by omega) rfl (fun r_77 => ?_)
            refine tz_aload_n (pc := 78) dX11_lostBy_78 rfl rfl ?_
            refine tz_fR (pc := 79) dX11_lostBy_79 fl_X11_29 r_0_1 ?_
            refine tz_fR (pc := 82) dX11_lostBy_82 fl_X11_49 r_5_0 ?_
            refine tz_fR (pc := 85) dX11_lostBy_85 fl_X11_234 r_6_5 ?_
            refine tz_iload (pc := 88) dX11_lostBy_88 rfl ?_
            have w2 := g3.2.1.nums (t := zn) (by omega) (by omega)
            refine tz_aL (pc := 90) (z := zn) (v := (J3 11 zn)) dX11_lostBy_90 a_11 rfl (by omega) rfl (fun r_90 => ?_)
            refine tz_isub (pc := 91) (v := (J3 11 zd) - (J3 11 zn)) dX11_lostBy_91 rfl ?_
            refine tz_iadd (pc := 92) (v := q + ((J3 11 zd) - (J3 11 zn))) dX11_lostBy_92 rfl ?_
            refine tz_istore_n (pc := 93) (L2 := [_, _, _, _, _, _, _]) dX11_lostBy_93 rfl (by decide) rfl ?_
            refine tz_iinc (pc := 94) (z := k + 1) (L2 := [_, _, _, _, _, _, _]) dX11_lostBy_94 rfl (by omega) rfl ?_
            refine tz_goto (pc := 97) (tgt := 20) dX11_lostBy_97 (by decide) ?_
            exact ih20 _ (k + 1) _ _ _ m3 (by omega) (by omega) q3 l3
          · refine tz_iconst (pc := 62) dX11_lostBy_62 ?_
            exact tz_iret (pc := 63) (z := (-1)) dX11_lostBy_63 rfl (Nat.le_of_ble_eq_true rfl) (Nat.le_of_ble_eq_true rfl) ⟨Nat.le_refl _, Nat.le_add_right _ _⟩ ⟨_, rfl, (by decide), (by first | exact ⟨m3, q3, l3⟩ | exact ⟨m2, q2, l2⟩ | exact ⟨m1, g1, l1⟩)⟩
        · refine tz_iload (pc := 41) dX11_lostBy_41 rfl ?_
          refine tz_goto (pc := 43) (tgt := 55) dX11_lostBy_43 (by decide) ?_
          refine tz_istore (pc := 55) (L2 := [_, _, _, _, _, _, _]) dX11_lostBy_55 (by decide) rfl ?_
          refine tz_iload (pc := 57) dX11_lostBy_57 rfl ?_
          refine tz_if_geF (pc := 59) (tgt := 64) (by omega) dX11_lostBy_59 (by decide) (by omega) ?_
          refine tz_iconst (pc := 62) dX11_lostBy_62 ?_
          exact tz_iret (pc := 63) (z := (-1)) dX11_lostBy_63 rfl (Nat.le_of_ble_eq_true rfl) (Nat.le_of_ble_eq_true rfl) ⟨Nat.le_refl _, Nat.le_add_right _ _⟩ ⟨_, rfl, (by decide), (by first | exact ⟨m3, q3, l3⟩ | exact ⟨m2, q2, l2⟩ | exact ⟨m1, g1, l1⟩)⟩
  exact loop20 _ 0 0 none none _ m (Nat.lt_succ_self _) (by omega) g0 l0

set_option maxHeartbeats 4000000 in
set_option maxRecDepth 100000 in
theorem c_yAns {l : Launch} {G : tb_G} (hl : l.stackTraces = false) (n : Nat) (J : zJ) (x : Int) (u : Int) (hr_x : -2147483648 ≤ x ∧ x < 2147483648) (hr_u : -2147483648 ≤ u ∧ u < 2147483648)   : tz_Ok l G M_X11_yearsAnswer 0 0 0 [.ref 0, zi x, zi u] n J (zqi (fun z J' => J = J')) zN := by
  refine tz_Ok.of hl (by decide +kernel) rfl (tb_c1 rfl) (Nat.le_of_ble_eq_true rfl) ?_
  show tz_At l G M_X11_yearsAnswer (tb_rm 0 0 0) none (tb_ZM G 0 0 (zQ n 0 (zqi (fun z J' => J = J'))) (zX n 0 zN)) 0 0 n J 0 [some (.ref 0), some (zi x), some (zi u), none] []
  refine tz_iload_n (pc := 0) dX11_yearsAnswer_0 rfl rfl ?_
  refine tz_if_ne (pc := 1) (tgt := 6) dX11_yearsAnswer_1 (by decide) (by omega) (fun h_1 => ?_) (fun h_1 => ?_)
  · refine tz_iload_n (pc := 6) dX11_yearsAnswer_6 rfl rfl ?_
    refine tz_iconst (pc := 7) dX11_yearsAnswer_7 ?_
    refine tz_icmp_ne (pc := 8) (tgt := 15) dX11_yearsAnswer_8 (by decide) (by omega) (by decide) (fun h_8 => ?_) (fun h_8 => ?_)
    · refine tz_iconst (pc := 15) dX11_yearsAnswer_15 ?_
      refine tz_istore_n (pc := 16) (L2 := [_, _, _, _]) dX11_yearsAnswer_16 rfl (by decide) rfl ?_
      refine tz_aload_n (pc := 17) dX11_yearsAnswer_17 rfl rfl ?_
      refine tz_fR (pc := 18) dX11_yearsAnswer_18 fl_X11_29 r_0_1 ?_
      refine tz_fR (pc := 21) dX11_yearsAnswer_21 fl_X11_156 r_5_1 ?_
      refine tz_fR (pc := 24) dX11_yearsAnswer_24 fl_X11_167 r_18_0 ?_
      refine tz_iload_n (pc := 27) dX11_yearsAnswer_27 rfl rfl ?_
      refine tz_aL (pc := 28) (z := 3) (v := (J 19 3)) dX11_yearsAnswer_28 a_19 rfl (by decide) rfl (fun r_28 => ?_)
      refine tz_aload_n (pc := 29) dX11_yearsAnswer_29 rfl rfl ?_
      refine tz_fR (pc := 30) dX11_yearsAnswer_30 fl_X11_29 r_0_1 ?_
      refine tz_fR (pc := 33) dX11_yearsAnswer_33 fl_X11_391 r_5_3 ?_
      refine tz_iload_n (pc := 36) dX11_yearsAnswer_36 rfl rfl ?_
      refine tz_aL (pc := 37) (z := 3) (v := (J 61 3)) dX11_yearsAnswer_37 a_61 rfl (by decide) rfl (fun r_37 => ?_)
      refine tz_isub (pc := 38) (v := (J 19 3) - (J 61 3)) dX11_yearsAnswer_38 rfl ?_
      refine tz_tw ?_
      have rw_39 := zw_rg ((J 19 3) - (J 61 3))
      exact tz_iret (pc := 39) (z := (zw ((J 19 3) - (J 61 3)))) dX11_yearsAnswer_39 rfl (Nat.le_of_ble_eq_true rfl) (Nat.le_of_ble_eq_true rfl) ⟨Nat.le_refl _, Nat.le_add_right _ _⟩ ⟨_, rfl, (zw_rg _), rfl⟩
    · refine tz_iconst (pc := 11) dX11_yearsAnswer_11 ?_
      refine tz_goto (pc := 12) (tgt := 16) dX11_yearsAnswer_12 (by decide) ?_
      refine tz_istore_n (pc := 16) (L2 := [_, _, _, _]) dX11_yearsAnswer_16 rfl (by decide) rfl ?_
      refine tz_aload_n (pc := 17) dX11_yearsAnswer_17 rfl rfl ?_
      refine tz_fR (pc := 18) dX11_yearsAnswer_18 fl_X11_29 r_0_1 ?_
      refine tz_fR (pc := 21) dX11_yearsAnswer_21 fl_X11_156 r_5_1 ?_
      refine tz_fR (pc := 24) dX11_yearsAnswer_24 fl_X11_167 r_18_0 ?_
      refine tz_iload_n (pc := 27) dX11_yearsAnswer_27 rfl rfl ?_
      refine tz_aL (pc := 28) (z := 2) (v := (J 19 2)) dX11_yearsAnswer_28 a_19 rfl (by decide) rfl (fun r_28 => ?_)
      refine tz_aload_n (pc := 29) dX11_yearsAnswer_29 rfl rfl ?_
      refine tz_fR (pc := 30) dX11_yearsAnswer_30 fl_X11_29 r_0_1 ?_
      refine tz_fR (pc := 33) dX11_yearsAnswer_33 fl_X11_391 r_5_3 ?_
      refine tz_iload_n (pc := 36) dX11_yearsAnswer_36 rfl rfl ?_
      refine tz_aL (pc := 37) (z := 2) (v := (J 61 2)) dX11_yearsAnswer_37 a_61 rfl (by decide) rfl (fun r_37 => ?_)
      refine tz_isub (pc := 38) (v := (J 19 2) - (J 61 2)) dX11_yearsAnswer_38 rfl ?_
      refine tz_tw ?_
      have rw_39 := zw_rg ((J 19 2) - (J 61 2))
      exact tz_iret (pc := 39) (z := (zw ((J 19 2) - (J 61 2)))) dX11_yearsAnswer_39 rfl (Nat.le_of_ble_eq_true rfl) (Nat.le_of_ble_eq_true rfl) ⟨Nat.le_refl _, Nat.le_add_right _ _⟩ ⟨_, rfl, (zw_rg _), rfl⟩
  · refine tz_iload_n (pc := 4) dX11_yearsAnswer_4 rfl rfl ?_
    exact tz_iret (pc := 5) (z := x) dX11_yearsAnswer_5 rfl (Nat.le_of_ble_eq_true rfl) (Nat.le_of_ble_eq_true rfl) ⟨Nat.le_refl _, Nat.le_add_right _ _⟩ ⟨_, rfl, (by omega), rfl⟩

set_option maxHeartbeats 4000000 in
set_option maxRecDepth 100000 in
theorem t_years {l : Launch} {G : tb_G} (hl : l.stackTraces = false) (n : Nat) (J : zJ) (s : Int) (y : Int) (u : Int) (hr_s : -2147483648 ≤ s ∧ s < 2147483648) (hr_y : -2147483648 ≤ y ∧ y < 2147483648) (hr_u : -2147483648 ≤ u ∧ u < 2147483648) (m : Int) (hI : CI J m) (h9 : J 145 10 < 1000000000) : tz_Ok l G M_X11_years 13 1 6 [.ref 0, zi s, zi y, zi u] n J (zqi (fun z J' => CQ J' J)) (fun E J' => (E = "java/util/NoSuchElementException" ∨ E = "java/lang/IllegalArgumentException") ∧ J = J') := by
  refine tz_Ok.of hl (by decide +kernel) rfl (tb_c1 rfl) (Nat.le_of_ble_eq_true rfl) ?_
  show tz_At l G M_X11_years (tb_rm 13 1 6) none (tb_ZM G 1 6 (zQ n 1 (zqi (fun z J' => CQ J' J))) (zX n 1 (fun E J' => (E = "java/util/NoSuchElementException" ∨ E = "java/lang/IllegalArgumentException") ∧ J = J'))) 0 0 n J 0 [some (.ref 0), some (zi s), some (zi y), some (zi u), none, none] []
  have hC := hI.1.1.1
  have hm := hI.1.1.2.1
  have hL := hI.1.1.2.2
  have hb := hC.told
  refine tz_iload_n (pc := 0) dX11_years_0 rfl rfl ?_
  refine tz_if_lt (pc := 1) (tgt := 9) dX11_years_1 (by decide) (by omega) (fun h_1 => ?_) (fun h_1 => ?_)
  · exact tz_throwNW (pc := 9) (text := "no such question of the years") th_X11_188_192 (by decide +kernel) rfl dX11_years_9 dX11_years_12 dX11_years_13 dX11_years_16 dX11_years_19 (Nat.le_of_ble_eq_true rfl) (Nat.le_of_ble_eq_true rfl) (Nat.le_of_ble_eq_true rfl) (Nat.le_of_ble_eq_true rfl) (Nat.le_of_ble_eq_true rfl) (Nat.le_of_ble_eq_true rfl) ⟨Nat.le_refl _, Nat.le_add_right _ _⟩ ⟨by first | exact Or.inl rfl | exact Or.inr rfl, rfl⟩
  · refine tz_iload_n (pc := 4) dX11_years_4 rfl rfl ?_
    refine tz_iconst (pc := 5) dX11_years_5 ?_
    refine tz_icmp_le (pc := 6) (tgt := 20) dX11_years_6 (by decide) (by omega) (by decide) (fun h_6 => ?_) (fun h_6 => ?_)
    · refine tz_iload_n (pc := 20) dX11_years_20 rfl rfl ?_
      refine tz_if_lt (pc := 21) (tgt := 30) dX11_years_21 (by decide) (by omega) (fun h_21 => ?_) (fun h_21 => ?_)
      · exact tz_throwW (pc := 30) (text := "not so many years") th_X11_122_126 (by decide +kernel) rfl dX11_years_30 dX11_years_33 dX11_years_34 dX11_years_37 dX11_years_40 (Nat.le_of_ble_eq_true rfl) (Nat.le_of_ble_eq_true rfl) (Nat.le_of_ble_eq_true rfl) (Nat.le_of_ble_eq_true rfl) (Nat.le_of_ble_eq_true rfl) (Nat.le_of_ble_eq_true rfl) ⟨Nat.le_refl _, Nat.le_add_right _ _⟩ ⟨by first | exact Or.inl rfl | exact Or.inr rfl, rfl⟩
      · refine tz_iload_n (pc := 24) dX11_years_24 rfl rfl ?_
        refine tz_bipush (pc := 25) dX11_years_25 (by decide) ?_
        refine tz_icmp_le (pc := 27) (tgt := 41) dX11_years_27 (by decide) (by omega) (by decide) (fun h_27 => ?_) (fun h_27 => ?_)
        · refine tz_aload_n (pc := 41) dX11_years_41 rfl rfl ?_
          refine tz_fR (pc := 42) dX11_years_42 fl_X11_29 r_0_1 ?_
          refine tz_cV (pc := 45) (c_begin hl n _) vl_X11_287 dX11_years_45 o_5 rfl rfl (Nat.le_of_ble_eq_true rfl) ⟨(Nat.le_of_ble_eq_true rfl), (Nat.le_of_ble_eq_true rfl)⟩ rfl rfl (Nat.le_of_ble_eq_true rfl) (Nat.le_of_ble_eq_true rfl) (fun r9 Jb hq9 => ?_)
          obtain ⟨rfl, hj⟩ := hq9
          have hb9 : zOf (zbut [19, 61]) Jb J := by rw [← hj]; exact zOf.cp rfl (zOf.up rfl zOf.rf)
          have hb19 : ∀ k, ¬ k = 0 → Jb 19 k = J 19 k := fun k hk => by rw [← hj, zcp_nc (by decide), zup_ne hk]
          have a0 : AC Jb m m := by rw [← hj]; exact hI.begin
          have hb6 := a0.1.1.2.1
          refine tz_aload_n (pc := 48) dX11_years_48 rfl rfl ?_
          refine tz_iload_n (pc := 49) dX11_years_49 rfl rfl ?_
          refine tz_iload_n (pc := 50) dX11_years_50 rfl rfl ?_
          refine tz_cV (pc := 51) (c_lostBy hl n _ _ _ (by omega) (by omega) m a0.1.1.1 a0.1.1.2.1 a0.1.1.2.2 (by omega)) vl_X11_382 dX11_years_51 o_0 rfl rfl (Nat.le_of_ble_eq_true rfl) ⟨(Nat.le_of_ble_eq_true rfl), (Nat.le_of_ble_eq_true rfl)⟩ rfl rfl (Nat.le_of_ble_eq_true rfl) (Nat.le_of_ble_eq_true rfl) (fun r9 J1 hq9 => ?_)
          obtain ⟨zl, rfl, hz_51, m1, g1, l1⟩ := hq9
          have a1 := a0.gx g1 rfl l1 (a0.1.2.1.of (g1.2.2.2.2 145 rfl) (g1.2.2.2.2 146 rfl))
          refine tz_istore (pc := 54) (L2 := [_, _, _, _, _, _]) dX11_years_54 (by decide) rfl ?_
          refine tz_iload (pc := 56) dX11_years_56 rfl ?_
          refine tz_iconst (pc := 58) dX11_years_58 ?_
          refine tz_icmp_ne (pc := 59) (tgt := 66) dX11_years_59 (by decide) (by omega) (by decide) (fun h_59 => ?_) (fun h_59 => ?_)
          · refine tz_aload_n (pc := 66) dX11_years_66 rfl rfl ?_
            refine tz_iload (pc := 67) dX11_years_67 rfl ?_
            refine tz_iload_n (pc := 69) dX11_years_69 rfl rfl ?_
            refine tz_cV (pc := 70) (c_yAns hl n _ _ _ (by omega) (by omega)) vl_X11_385 dX11_years_70 o_0 rfl rfl (Nat.le_of_ble_eq_true rfl) ⟨(Nat.le_of_ble_eq_true rfl), (Nat.le_of_ble_eq_true rfl)⟩ rfl rfl (Nat.le_of_ble_eq_true rfl) (Nat.le_of_ble_eq_true rfl) (fun r9 J_70 hq9 => ?_)
            obtain ⟨z_70, rfl, hz_70, rfl⟩ := hq9
            refine tz_istore (pc := 73) (L2 := [_, _, _, _, _, _]) dX11_years_73 (by decide) rfl ?_
            refine tz_aload_n (pc := 75) dX11_years_75 rfl rfl ?_
            refine tz_fR (pc := 76) dX11_years_76 fl_X11_29 r_0_1 ?_
            refine tz_cV (pc := 79) (c_rollBack hl n _ m1 a1.1.1.1 a1.1.1.2.1 (by rw [a1.2.2.1.2]; exact a1.2.2.2)) vl_X11_388 dX11_years_79 o_5 rfl rfl (Nat.le_of_ble_eq_true rfl) ⟨(Nat.le_of_ble_eq_true rfl), (Nat.le_of_ble_eq_true rfl)⟩ rfl rfl (Nat.le_of_ble_eq_true rfl) (Nat.le_of_ble_eq_true rfl) (fun r9 J_79 hq9 => ?_)
            obtain ⟨rfl, b1, b2, b3, b4⟩ := hq9
            have hc := a1.back b1 b2 b3 b4
            refine tz_iload (pc := 82) dX11_years_82 rfl ?_
            exact tz_iret (pc := 84) (z := z_70) dX11_years_84 rfl (Nat.le_of_ble_eq_true rfl) (Nat.le_of_ble_eq_true rfl) ⟨Nat.le_refl _, Nat.le_add_right _ _⟩ ⟨_, rfl, (by omega), (SQ.cq ⟨⟨m, hc⟩, b1 145 rfl, b1 0 rfl, (b1.mono (fun c hc => by have := of_decide_eq_true hc; simp [zbut]; omega))⟩ (by rw [g1.2.2.2.2 145 rfl, hb9 145 rfl]; omega) ((g1.2.2.2.2 0 rfl).trans (hb9 0 rfl)) ((g1.2.2.2.2.mono (fun c hc => by have := of_decide_eq_true hc; simp [zbut]; omega)).tr (hb9.mono (fun c hc => by have := of_decide_eq_true hc; simp [zbut]; omega))))⟩
          · refine tz_iconst (pc := 62) dX11_years_62 ?_
            refine tz_goto (pc := 63) (tgt := 73) dX11_years_63 (by decide) ?_
            refine tz_istore (pc := 73) (L2 := [_, _, _, _, _, _]) dX11_years_73 (by decide) rfl ?_
            refine tz_aload_n (pc := 75) dX11_years_75 rfl rfl ?_
            refine tz_fR (pc := 76) dX11_years_76 fl_X11_29 r_0_1 ?_
            refine tz_cV (pc := 79) (c_rollBack hl n _ m1 a1.1.1.1 a1.1.1.2.1 (by rw [a1.2.2.1.2]; exact a1.2.2.2)) vl_X11_388 dX11_years_79 o_5 rfl rfl (Nat.le_of_ble_eq_true rfl) ⟨(Nat.le_of_ble_eq_true rfl), (Nat.le_of_ble_eq_true rfl)⟩ rfl rfl (Nat.le_of_ble_eq_true rfl) (Nat.le_of_ble_eq_true rfl) (fun r9 J_79 hq9 => ?_)
            obtain ⟨rfl, b1, b2, b3, b4⟩ := hq9
            have hc := a1.back b1 b2 b3 b4
            refine tz_iload (pc := 82) dX11_years_82 rfl ?_
            exact tz_iret (pc := 84) (z := (-1)) dX11_years_84 rfl (Nat.le_of_ble_eq_true rfl) (Nat.le_of_ble_eq_true rfl) ⟨Nat.le_refl _, Nat.le_add_right _ _⟩ ⟨_, rfl, (by decide), (SQ.cq ⟨⟨m, hc⟩, b1 145 rfl, b1 0 rfl, (b1.mono (fun c hc => by have := of_decide_eq_true hc; simp [zbut]; omega))⟩ (by rw [g1.2.2.2.2 145 rfl, hb9 145 rfl]; omega) ((g1.2.2.2.2 0 rfl).trans (hb9 0 rfl)) ((g1.2.2.2.2.mono (fun c hc => by have := of_decide_eq_true hc; simp [zbut]; omega)).tr (hb9.mono (fun c hc => by have := of_decide_eq_true hc; simp [zbut]; omega))))⟩
        · exact tz_throwW (pc := 30) (text := "not so many years") th_X11_122_126 (by decide +kernel) rfl dX11_years_30 dX11_years_33 dX11_years_34 dX11_years_37 dX11_years_40 (Nat.le_of_ble_eq_true rfl) (Nat.le_of_ble_eq_true rfl) (Nat.le_of_ble_eq_true rfl) (Nat.le_of_ble_eq_true rfl) (Nat.le_of_ble_eq_true rfl) (Nat.le_of_ble_eq_true rfl) ⟨Nat.le_refl _, Nat.le_add_right _ _⟩ ⟨by first | exact Or.inl rfl | exact Or.inr rfl, rfl⟩
    · exact tz_throwNW (pc := 9) (text := "no such question of the years") th_X11_188_192 (by decide +kernel) rfl dX11_years_9 dX11_years_12 dX11_years_13 dX11_years_16 dX11_years_19 (Nat.le_of_ble_eq_true rfl) (Nat.le_of_ble_eq_true rfl) (Nat.le_of_ble_eq_true rfl) (Nat.le_of_ble_eq_true rfl) (Nat.le_of_ble_eq_true rfl) (Nat.le_of_ble_eq_true rfl) ⟨Nat.le_refl _, Nat.le_add_right _ _⟩ ⟨by first | exact Or.inl rfl | exact Or.inr rfl, rfl⟩

