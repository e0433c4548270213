/-! ===== rules of the class, exact ===== -/
set_option maxHeartbeats 4000000 in
set_option maxRecDepth 100000 in
theorem x_isRuleN {l : Launch} {G : tb_G} (hl : l.stackTraces = false) (n : Nat) (J : zJ) (x : Int) (y : Int) (hr_x : -2147483648 ≤ x ∧ x < 2147483648) (hr_y : -2147483648 ≤ y ∧ y < 2147483648) (m : Int) (C : CT J m) (hm : J 6 12 = m) (hn : ¬ ((0 ≤ x ∧ x < m) ∧ (0 ≤ y ∧ y < m))) : tz_Ok l G M_X7_isRule 13 0 0 [.ref 155, zi x, zi y] n J (zqi (fun z J' => z = 0 ∧ J = J')) zN := by
  refine tz_Ok.of hl (by decide +kernel) rfl (tb_c1 rfl) (Nat.le_of_ble_eq_true rfl) ?_
  show tz_At l G M_X7_isRule (tb_rm 13 0 0) none (tb_ZM G 0 0 (zQ n 0 (zqi (fun z J' => z = 0 ∧ J = J'))) (zX n 0 zN)) 0 0 n J 0 [some (.ref 155), some (zi x), some (zi y)] []
  refine tz_aload_n (pc := 0) dX7_isRule_0 rfl rfl ?_
  refine tz_fR (pc := 1) dX7_isRule_1 fl_X7_21 r_155_1 ?_
  refine tz_iload_n (pc := 4) dX7_isRule_4 rfl rfl ?_
  refine tz_cV (pc := 5) (c_has hl n _ _ (by omega)) vl_X7_40 dX7_isRule_5 o_6 rfl rfl (Nat.le_of_ble_eq_true rfl) ⟨(Nat.le_of_ble_eq_true rfl), (Nat.le_of_ble_eq_true rfl)⟩ rfl rfl (Nat.le_of_ble_eq_true rfl) (Nat.le_of_ble_eq_true rfl) (fun r9 J_5 hq9 => ?_)
  obtain ⟨z_5, rfl, hz_5, rfl, rfl⟩ := hq9
  by_cases hw_8 : 0 ≤ x ∧ x < J 6 12
  · rw [show (if 0 ≤ x ∧ x < J 6 12 then 1 else 0 : Int) = 1 from if_pos hw_8]
    refine tz_if_eqF (pc := 8) (tgt := 77) (by decide) dX7_isRule_8 (by decide) (by decide) ?_
    refine tz_aload_n (pc := 11) dX7_isRule_11 rfl rfl ?_
    refine tz_fR (pc := 12) dX7_isRule_12 fl_X7_21 r_155_1 ?_
    refine tz_iload_n (pc := 15) dX7_isRule_15 rfl rfl ?_
    refine tz_cV (pc := 16) (c_has hl n _ _ (by omega)) vl_X7_40 dX7_isRule_16 o_6 rfl rfl (Nat.le_of_ble_eq_true rfl) ⟨(Nat.le_of_ble_eq_true rfl), (Nat.le_of_ble_eq_true rfl)⟩ rfl rfl (Nat.le_of_ble_eq_true rfl) (Nat.le_of_ble_eq_true rfl) (fun r9 J_16 hq9 => ?_)
    obtain ⟨z_16, rfl, hz_16, rfl, rfl⟩ := hq9
    by_cases hw_19 : 0 ≤ y ∧ y < J 6 12
    · rw [show (if 0 ≤ y ∧ y < J 6 12 then 1 else 0 : Int) = 1 from if_pos hw_19]
      refine tz_if_eqF (pc := 19) (tgt := 77) (by decide) dX7_isRule_19 (by decide) (by decide) ?_
      exact absurd (by omega) hn
    · rw [show (if 0 ≤ y ∧ y < J 6 12 then 1 else 0 : Int) = 0 from if_neg hw_19]
      refine tz_if_eqT (pc := 19) (tgt := 77) (by decide) dX7_isRule_19 (by decide) (by decide) ?_
      refine tz_iconst (pc := 77) dX7_isRule_77 ?_
      exact tz_zret (pc := 78) (z := 0) dX7_isRule_78 rfl (Or.inl rfl) (Nat.le_of_ble_eq_true rfl) (Nat.le_of_ble_eq_true rfl) ⟨Nat.le_refl _, Nat.le_add_right _ _⟩ ⟨_, rfl, (by decide), ⟨rfl, rfl⟩⟩
  · rw [show (if 0 ≤ x ∧ x < J 6 12 then 1 else 0 : Int) = 0 from if_neg hw_8]
    refine tz_if_eqT (pc := 8) (tgt := 77) (by decide) dX7_isRule_8 (by decide) (by decide) ?_
    refine tz_iconst (pc := 77) dX7_isRule_77 ?_
    exact tz_zret (pc := 78) (z := 0) dX7_isRule_78 rfl (Or.inl rfl) (Nat.le_of_ble_eq_true rfl) (Nat.le_of_ble_eq_true rfl) ⟨Nat.le_refl _, Nat.le_add_right _ _⟩ ⟨_, rfl, (by decide), ⟨rfl, rfl⟩⟩

theorem x_isRuleA {l : Launch} {G : tb_G} (hl : l.stackTraces = false) (n : Nat) (J : zJ) (x y : Int) (hr_x : -2147483648 ≤ x ∧ x < 2147483648) (hr_y : -2147483648 ≤ y ∧ y < 2147483648) (m : Int) (C : CT J m) (hm : J 6 12 = m) (h3 : J 156 3 = -1) : tz_Ok l G M_X7_isRule 13 0 0 [.ref 155, zi x, zi y] n J (zqi (fun z J' => ((z = 1 ∧ ((0 ≤ x ∧ x < m) ∧ (0 ≤ y ∧ y < m)) ∧ cru J x y) ∨ (z = 0 ∧ ¬ (((0 ≤ x ∧ x < m) ∧ (0 ≤ y ∧ y < m)) ∧ cru J x y))) ∧ (zOf (zbut [156, 157]) J' J ∧ ∀ k, ¬ k = 2 → J' 156 k = J 156 k))) zN := by
  by_cases h : (0 ≤ x ∧ x < m) ∧ (0 ≤ y ∧ y < m)
  · exact (x_isRule9 hl n J x y hr_x hr_y m C hm h.1 h.2 h3).mono (fun r J' _ ⟨z, a, b, c, d⟩ => ⟨z, a, b, c.imp (fun q => ⟨q.1, h, q.2⟩) (fun q => ⟨q.1, fun k => q.2 k.2⟩), d⟩) (fun _ _ _ h => h)
  · exact (x_isRuleN hl n J x y hr_x hr_y m C hm h).mono (fun r J' _ ⟨z, a, b, c, d⟩ => ⟨z, a, b, Or.inr ⟨c, fun k => h k.1⟩, by rw [← d]; exact ⟨zOf.rf, fun _ _ => rfl⟩⟩) (fun _ _ _ h => h)
theorem CAL.wk {X : List Nat} {J' J S : zJ} {pn m : Int} {RR : Int → Int → Int} (c : CAL J S pn RR) (hI : CI J m) (f : zOf (zbut X) J' J) (hX : (X.all fun c => decide (140 ≤ c)) = true) : CAL J' S pn RR := by
  have hn := hI.2.1
  have nn := c.2.2.1
  have hf : ∀ c, c < 140 → J' c = J c := fun c hc => f c (by
    simp only [zbut, Bool.not_eq_true', List.contains_eq_mem, decide_eq_false_iff_not]
    intro q
    have := of_decide_eq_true (List.all_eq_true.mp hX c q)
    omega)
  exact ⟨c.1.f (fun q hq => hf q (by omega)), by rw [hf 19 (by decide)]; exact c.2.1, c.2.2.of (by omega) (hf 5 (by decide)) (fun i a b => hf _ (by unfold zU; omega))⟩
set_option maxHeartbeats 4000000 in
set_option maxRecDepth 100000 in
theorem v_rules {l : Launch} {G : tb_G} (hl : l.stackTraces = false) (n : Nat) (J : zJ) (x : Int) (y : Int) (hr_x : -2147483648 ≤ x ∧ x < 2147483648) (hr_y : -2147483648 ≤ y ∧ y < 2147483648) (m : Int) (S : zJ) (pn : Int) (RR : Int → Int → Int) (hI : CI J m) (h9 : J 145 10 < 1000000000) (cc : CAL J S pn RR) (h21 : S 164 21 = 0) : tz_Ok l G M_X11_rules 14 0 0 [.ref 0, zi x, zi y] n J (zqi (fun z J' => CQ J' J ∧ (((J 19 4 < 8 ∧ ((0 ≤ x ∧ x < J 6 12) ∧ (0 ≤ y ∧ y < J 6 12)) ∧ cru J x y) ∧ ED S pn RR ((zru S x y, J 19 4 + 1)) J' z) ∨ (¬ (J 19 4 < 8 ∧ ((0 ≤ x ∧ x < J 6 12) ∧ (0 ≤ y ∧ y < J 6 12)) ∧ cru J x y) ∧ z = -1 ∧ CAL J' S pn RR)))) zN := by
  refine tz_Ok.of hl (by decide +kernel) rfl (tb_c1 rfl) (Nat.le_of_ble_eq_true rfl) ?_
  show tz_At l G M_X11_rules (tb_rm 14 0 0) none (tb_ZM G 0 0 (zQ n 0 (zqi (fun z J' => CQ J' J ∧ (((J 19 4 < 8 ∧ ((0 ≤ x ∧ x < J 6 12) ∧ (0 ≤ y ∧ y < J 6 12)) ∧ cru J x y) ∧ ED S pn RR ((zru S x y, J 19 4 + 1)) J' z) ∨ (¬ (J 19 4 < 8 ∧ ((0 ≤ x ∧ x < J 6 12) ∧ (0 ≤ y ∧ y < J 6 12)) ∧ cru J x y) ∧ z = -1 ∧ CAL J' S pn RR))))) (zX n 0 zN)) 0 0 n J 0 [some (.ref 0), some (zi x), some (zi y), none] []
  have hC := hI.1.1.1
  have hm := hI.1.1.2.1
  have hL := hI.1.1.2.2
  have hb := hC.told
  have wb := cc.2.1.b hL
  have h4 := hL.1.2.1
  refine tz_aload_n (pc := 0) dX11_rules_0 rfl rfl ?_
  refine tz_fR (pc := 1) dX11_rules_1 fl_X11_29 r_0_1 ?_
  refine tz_fR (pc := 4) dX11_rules_4 fl_X11_156 r_5_1 ?_
  refine tz_astore_n (pc := 7) (L2 := [_, _, _, _]) dX11_rules_7 rfl (by decide) rfl ?_
  refine tz_aload_n (pc := 8) dX11_rules_8 rfl rfl ?_
  refine tz_fR (pc := 9) dX11_rules_9 fl_X11_167 r_18_0 ?_
  refine tz_iconst (pc := 12) dX11_rules_12 ?_
  refine tz_aL (pc := 13) (z := 4) (v := (J 19 4)) dX11_rules_13 a_19 rfl (by decide) rfl (fun r_13 => ?_)
  refine tz_bipush (pc := 14) dX11_rules_14 (by decide) ?_
  refine tz_icmp_ge (pc := 16) (tgt := 31) dX11_rules_16 (by decide) (by omega) (by decide) (fun h_16 => ?_) (fun h_16 => ?_)
  · refine tz_aload_n (pc := 31) dX11_rules_31 rfl rfl ?_
    refine tz_iconst (pc := 32) dX11_rules_32 ?_
    refine tz_iconst (pc := 33) dX11_rules_33 ?_
    refine tz_cV (pc := 34) (c_refused hl n _ _ _ (by decide) (by omega) (by decide)) vl_X11_284 dX11_rules_34 o_0 rfl rfl (Nat.le_of_ble_eq_true rfl) ⟨(Nat.le_of_ble_eq_true rfl), (Nat.le_of_ble_eq_true rfl)⟩ rfl rfl (Nat.le_of_ble_eq_true rfl) (Nat.le_of_ble_eq_true rfl) (fun r9 J_34 hq9 => ?_)
    obtain ⟨z_34, rfl, hz_34, f9, rfl⟩ := hq9
    exact tz_iret (pc := 37) (z := (-1)) dX11_rules_37 rfl (Nat.le_of_ble_eq_true rfl) (Nat.le_of_ble_eq_true rfl) ⟨Nat.le_refl _, Nat.le_add_right _ _⟩ ⟨_, rfl, (by decide), ⟨(SQ.cq ⟨⟨m, hI.st f9⟩, f9 145 rfl, f9 0 rfl, (f9.mono (fun c hc => by have := of_decide_eq_true hc; simp [zbut]; omega))⟩ (by omega) rfl zOf.rf), Or.inr ⟨fun q => absurd q.1 (by omega), rfl, cc.st hI f9⟩⟩⟩
  · refine tz_aload_n (pc := 19) dX11_rules_19 rfl rfl ?_
    refine tz_fR (pc := 20) dX11_rules_20 fl_X11_81 r_0_9 ?_
    refine tz_iload_n (pc := 23) dX11_rules_23 rfl rfl ?_
    refine tz_iload_n (pc := 24) dX11_rules_24 rfl rfl ?_
    refine tz_cV (pc := 25) (x_isRuleA hl n _ _ _ (by omega) (by omega) m hC hm hI.1.2.2.1.2) vl_X11_353 dX11_rules_25 o_155 rfl rfl (Nat.le_of_ble_eq_true rfl) ⟨(Nat.le_of_ble_eq_true rfl), (Nat.le_of_ble_eq_true rfl)⟩ rfl rfl (Nat.le_of_ble_eq_true rfl) (Nat.le_of_ble_eq_true rfl) (fun r9 J1 hq9 => ?_)
    obtain ⟨zc, rfl, hz_25, q1, q2, q4⟩ := hq9
    have hw1 := hI.work6 q2 rfl ((q4 3 (by decide)).trans hI.1.2.2.1.2)
    have hI1 := hw1.1
    have cc1 := cc.wk hI q2 rfl
    have qc : zc = 0 ∨ zc = 1 := q1.elim (fun q => Or.inr q.1) (fun q => Or.inl q.1)
    refine tz_if_ne (pc := 28) (tgt := 38) dX11_rules_28 (by decide) (by omega) (fun h_28 => ?_) (fun h_28 => ?_)
    · refine tz_aload_n (pc := 38) dX11_rules_38 rfl rfl ?_
      refine tz_fR (pc := 39) dX11_rules_39 fl_X11_29 r_0_1 ?_
      refine tz_cV (pc := 42) (c_begin hl n _) vl_X11_287 dX11_rules_42 o_5 rfl rfl (Nat.le_of_ble_eq_true rfl) ⟨(Nat.le_of_ble_eq_true rfl), (Nat.le_of_ble_eq_true rfl)⟩ rfl rfl (Nat.le_of_ble_eq_true rfl) (Nat.le_of_ble_eq_true rfl) (fun r9 Jb hq9 => ?_)
      obtain ⟨rfl, hj⟩ := hq9
      have hb9 : zOf (zbut [19, 61]) Jb J1 := by rw [← hj]; exact zOf.cp rfl (zOf.up rfl zOf.rf)
      have hb19 : ∀ k, ¬ k = 0 → Jb 19 k = J1 19 k := fun k hk => by rw [← hj, zcp_nc (by decide), zup_ne hk]
      have a0 : AC Jb m m := by rw [← hj]; exact hI1.begin
      have hb6 := a0.1.1.2.1
      obtain ⟨cb, kb, lb⟩ := cc1.begin hI1 hj
      refine tz_aload_n (pc := 45) dX11_rules_45 rfl rfl ?_
      refine tz_iload_n (pc := 46) dX11_rules_46 rfl rfl ?_
      refine tz_iload_n (pc := 47) dX11_rules_47 rfl rfl ?_
      have q3 := (q1.resolve_right (fun k => by have := k.1; omega)).2
      refine tz_cV (pc := 48) (c_addRule hl n _ _ _ (by omega) (by omega) a0.1.1.2.2.1.2.1) vl_X11_356 dX11_rules_48 o_18 rfl rfl (Nat.le_of_ble_eq_true rfl) ⟨(Nat.le_of_ble_eq_true rfl), (Nat.le_of_ble_eq_true rfl)⟩ rfl rfl (Nat.le_of_ble_eq_true rfl) (Nat.le_of_ble_eq_true rfl) (fun r9 Jd hq9 => ?_)
      obtain ⟨rfl, hj3⟩ := hq9
      have fw : zOf (zbut [19]) Jd Jb := by rw [← hj3]; exact zof_aR
      have a1 : AC Jd m m := a0.led fw (by rw [← hj3]; exact a0.1.1.2.2.aR q3.1.1 q3.1.2)
      refine tz_aload_n (pc := 51) dX11_rules_51 rfl rfl ?_
      refine tz_fR (pc := 52) dX11_rules_52 fl_X11_29 r_0_1 ?_
      refine tz_cV (pc := 55) (x_keep hl n _ m m a1) vl_X11_305 dX11_rules_55 o_5 rfl rfl (Nat.le_of_ble_eq_true rfl) ⟨(Nat.le_of_ble_eq_true rfl), (Nat.le_of_ble_eq_true rfl)⟩ rfl rfl (Nat.le_of_ble_eq_true rfl) (Nat.le_of_ble_eq_true rfl) (fun r9 Jk hq9 => ?_)
      obtain ⟨rfl, k9, kx⟩ := hq9
      refine tz_aload_n (pc := 58) dX11_rules_58 rfl rfl ?_
      refine tz_fR (pc := 59) dX11_rules_59 fl_X11_167 r_18_0 ?_
      refine tz_iconst (pc := 62) dX11_rules_62 ?_
      refine tz_aL (pc := 63) (z := 4) (v := (Jd 19 4)) dX11_rules_63 a_19 rfl (by decide) (Eq.trans (congrFun (k9.2 19 rfl) 4) rfl) (fun r_63 => ?_)
      have c4 := cb.2.1.2.1.1
      have d4 : Jb 19 4 = J 19 4 := (hb19 4 (by decide)).trans (congrFun (q2 19 rfl) 4)
      exact tz_iret (pc := 64) (z := (Jd 19 4)) dX11_rules_64 rfl (Nat.le_of_ble_eq_true rfl) (Nat.le_of_ble_eq_true rfl) ⟨Nat.le_refl _, Nat.le_add_right _ _⟩ ⟨_, rfl, (by omega), ⟨(CQ.k k9 (by rw [fw 145 rfl, hb9 145 rfl, hw1.2.1]; omega) ((fw 0 rfl).trans ((hb9 0 rfl).trans hw1.2.2.1)) ((fw.mono (fun c hc => by have := of_decide_eq_true hc; simp [zbut]; omega)).tr ((hb9.mono (fun c hc => by have := of_decide_eq_true hc; simp [zbut]; omega)).tr hw1.2.2.2))), Or.inl ⟨⟨by omega, by rw [hm]; exact q3.1, q3.2⟩, act_keep cc1 hI1 hj fw h21 (show Jd 19 4 = J 19 4 + 1 from by rw [← hj3]; unfold zaR; rw [if_pos (by omega), zup_ne (by decide), zup_at]; omega) (by show (if (0 : Int) = 40 then 0 else if (0 : Int) = 9 then S 165 9 + 1 else if (0 : Int) = 10 + 2 * S 165 9 + 1 then y else if (0 : Int) = 10 + 2 * S 165 9 then x else S 165 0) = S 165 0; rw [if_neg (by decide), if_neg (by decide), if_neg (by omega), if_neg (by omega)]) (zOf.up rfl zrl_of) (by rw [← hj3]; unfold zaR; rw [if_pos (by omega)]; exact cb.2.1.ru ⟨⟨wb.1.1, by omega⟩, wb.2.1⟩) k9.2 kx⟩⟩⟩
    · refine tz_aload_n (pc := 31) dX11_rules_31 rfl rfl ?_
      refine tz_iconst (pc := 32) dX11_rules_32 ?_
      refine tz_iconst (pc := 33) dX11_rules_33 ?_
      refine tz_cV (pc := 34) (c_refused hl n _ _ _ (by decide) (by omega) (by decide)) vl_X11_284 dX11_rules_34 o_0 rfl rfl (Nat.le_of_ble_eq_true rfl) ⟨(Nat.le_of_ble_eq_true rfl), (Nat.le_of_ble_eq_true rfl)⟩ rfl rfl (Nat.le_of_ble_eq_true rfl) (Nat.le_of_ble_eq_true rfl) (fun r9 J_34 hq9 => ?_)
      obtain ⟨z_34, rfl, hz_34, f9, rfl⟩ := hq9
      exact tz_iret (pc := 37) (z := (-1)) dX11_rules_37 rfl (Nat.le_of_ble_eq_true rfl) (Nat.le_of_ble_eq_true rfl) ⟨Nat.le_refl _, Nat.le_add_right _ _⟩ ⟨_, rfl, (by decide), ⟨(SQ.cq ⟨⟨m, hI1.st f9⟩, f9 145 rfl, f9 0 rfl, (f9.mono (fun c hc => by have := of_decide_eq_true hc; simp [zbut]; omega))⟩ (by rw [hw1.2.1]; omega) hw1.2.2.1 hw1.2.2.2), Or.inr ⟨fun q => (q1.resolve_left (fun k => by have := k.1; omega)).2 ⟨by rw [← hm]; exact q.2.1, q.2.2⟩, rfl, cc1.st hI1 f9⟩⟩⟩

