/-! ===== variable, make of the class, exact ===== -/
theorem CAL.st {J' J S : zJ} {pn m : Int} {RR : Int → Int → Int} (c : CAL J S pn RR) (hI : CI J m) (f : zOf (zbut [62]) J' J) : CAL J' S pn RR := by
  have hn := hI.2.1
  have nn := c.2.2.1
  exact ⟨c.1.f (fun q hq => f q (by simp [zbut]; omega)), by rw [f 19 rfl]; exact c.2.1, c.2.2.of (by omega) (f 5 rfl) (fun i a b => f _ (by simp [zbut, zU]; omega))⟩
theorem tmO_5 {S : zJ} {h x y w k : Int} (hk : ¬ k = 0) : (tmO S h x y w).1 165 k = S 165 k := by
  unfold tmO
  (repeat' split) <;> first | rfl | (show chT _ _ _ _ _ _ _ _ _ 165 k = _; rw [chT_5, if_neg hk])
/-- a term was asked for: what settled wants -/
theorem A0.op {J' J S : zJ} {m m9 h a b c x y w z : Int} (E : A0 J S) (W : RW (J 19) (S 165)) (l : LI (J 19) m9) (h0 : S 164 21 = 0) (C : CT J m) (hm : J 6 12 = m) (hh : -8 ≤ h ∧ h < J 1 3) (hx : (0 < arh (J 3) h → a = x) ∧ (1 < arh (J 3) h → b = y) ∧ (2 < arh (J 3) h → c = w)) (hr : (0 < arh (J 3) h → 0 ≤ a ∧ a < m) ∧ (1 < arh (J 3) h → 0 ≤ b ∧ b < m) ∧ (2 < arh (J 3) h → 0 ≤ c ∧ c < m)) (p : madeP J m h a b c z J') : (z = -3 ∧ ¬ (tmO S h x y w).1 164 21 = 0) ∨ (0 ≤ z ∧ (tmO S h x y w).1 164 21 = 0 ∧ A0 J' (tmO S h x y w).1 ∧ z = (tmO S h x y w).2 ∧ RW (J' 19) ((tmO S h x y w).1 165)) := by
  rcases E.made h0 C hm hh hx hr p with ⟨q1, q2⟩ | ⟨q1, q2, q3, q4⟩
  · exact Or.inl ⟨q1.2, q2⟩
  · refine Or.inr ⟨q1, q2, q3, q4, ?_⟩
    rw [p.1 19 rfl]
    exact W.to l (fun k u v => tmO_5 (by omega))
set_option maxHeartbeats 4000000 in
set_option maxRecDepth 100000 in
theorem v_variable {l : Launch} {G : tb_G} (hl : l.stackTraces = false) (n : Nat) (J : zJ) (x : Int) (hr_x : -2147483648 ≤ x ∧ x < 2147483648) (m : Int) (S : zJ) (pn : Int) (RR : Int → Int → Int) (hI : CI J m) (h9 : J 145 10 < 1000000000) (cc : CAL J S pn RR) (h21 : S 164 21 = 0) : tz_Ok l G M_X11_variable 6 0 0 [.ref 0, zi x] n J (zqi (fun z J' => CQ J' J ∧ (((0 ≤ x ∧ x < 8) ∧ ED S pn RR (tmO S (-1 - x) 0 0 0) J' z) ∨ (¬ (0 ≤ x ∧ x < 8) ∧ z = -1 ∧ CAL J' S pn RR)))) zN := by
  refine tz_Ok.of hl (by decide +kernel) rfl (tb_c1 rfl) (Nat.le_of_ble_eq_true rfl) ?_
  show tz_At l G M_X11_variable (tb_rm 6 0 0) none (tb_ZM G 0 0 (zQ n 0 (zqi (fun z J' => CQ J' J ∧ (((0 ≤ x ∧ x < 8) ∧ ED S pn RR (tmO S (-1 - x) 0 0 0) J' z) ∨ (¬ (0 ≤ x ∧ x < 8) ∧ z = -1 ∧ CAL J' S pn RR))))) (zX n 0 zN)) 0 0 n J 0 [some (.ref 0), some (zi x)] []
  have hC := hI.1.1.1
  have hm := hI.1.1.2.1
  have hL := hI.1.1.2.2
  have hb := hC.told
  refine tz_iload_n (pc := 0) dX11_variable_0 rfl rfl ?_
  refine tz_cS (pc := 1) (c_isVarN hl n _ _ (by omega)) sl_X11_279 dX11_variable_1 rfl rfl (Nat.le_of_ble_eq_true rfl) ⟨(Nat.le_of_ble_eq_true rfl), (Nat.le_of_ble_eq_true rfl)⟩ rfl rfl (Nat.le_of_ble_eq_true rfl) (Nat.le_of_ble_eq_true rfl) (fun r9 J_1 hq9 => ?_)
  obtain ⟨z_1, rfl, hz_1, rfl, rfl⟩ := hq9
  by_cases hw_4 : 0 ≤ x ∧ x < 8
  · rw [show (if 0 ≤ x ∧ x < 8 then 1 else 0 : Int) = 1 from if_pos hw_4]
    refine tz_if_neT (pc := 4) (tgt := 14) (by decide) dX11_variable_4 (by decide) (by decide) ?_
    refine tz_aload_n (pc := 14) dX11_variable_14 rfl rfl ?_
    refine tz_fR (pc := 15) dX11_variable_15 fl_X11_29 r_0_1 ?_
    refine tz_cV (pc := 18) (c_begin hl n _) vl_X11_287 dX11_variable_18 o_5 rfl rfl (Nat.le_of_ble_eq_true rfl) ⟨(Nat.le_of_ble_eq_true rfl), (Nat.le_of_ble_eq_true rfl)⟩ rfl rfl (Nat.le_of_ble_eq_true rfl) (Nat.le_of_ble_eq_true rfl) (fun r9 Jb hq9 => ?_)
    obtain ⟨rfl, hj⟩ := hq9
    have hb9 : zOf (zbut [19, 61]) Jb J := by rw [← hj]; exact zOf.cp rfl (zOf.up rfl zOf.rf)
    have hb19 : ∀ k, ¬ k = 0 → Jb 19 k = J 19 k := fun k hk => by rw [← hj, zcp_nc (by decide), zup_ne hk]
    have a0 : AC Jb m m := by rw [← hj]; exact hI.begin
    have hb6 := a0.1.1.2.1
    obtain ⟨cb, kb, lb⟩ := cc.begin hI hj
    refine tz_aload_n (pc := 21) dX11_variable_21 rfl rfl ?_
    refine tz_aload_n (pc := 22) dX11_variable_22 rfl rfl ?_
    refine tz_fR (pc := 23) dX11_variable_23 fl_X11_29 r_0_1 ?_
    refine tz_fR (pc := 26) dX11_variable_26 fl_X11_49 r_5_0 ?_
    refine tz_iload_n (pc := 29) dX11_variable_29 rfl rfl ?_
    refine tz_cV (pc := 30) (c_varTerm hl n _ _ (by omega) m a0.1.1.1 a0.1.1.2.1 (by omega)) vl_X11_290 dX11_variable_30 o_6 rfl rfl (Nat.le_of_ble_eq_true rfl) ⟨(Nat.le_of_ble_eq_true rfl), (Nat.le_of_ble_eq_true rfl)⟩ rfl rfl (Nat.le_of_ble_eq_true rfl) (Nat.le_of_ble_eq_true rfl) (fun r9 J_30 hq9 => ?_)
    obtain ⟨z_30, rfl, hz_30, p1⟩ := hq9
    obtain ⟨m1, g1, h1⟩ := GR.made p1 (by omega)
    have a1 := a0.gx0 (g1.x (X := [])) rfl
    have ar0 : arh (Jb 3) (-1 - x) = 0 := by unfold arh; rw [if_pos (by omega)]
    have o1 := cb.1.op (x := 0) (y := 0) (w := 0) cb.2.1 a0.1.1.2.2 h21 a0.1.1.1 a0.1.1.2.1 ⟨by omega, by have := a0.1.1.1.told; omega⟩ ⟨fun q => by omega, fun q => by omega, fun q => by omega⟩ ⟨fun q => by omega, fun q => by omega, fun q => by omega⟩ p1
    refine tz_cV (pc := 33) (x_settled hl n _ _ (by omega) m m1 a1) vl_X11_293 dX11_variable_33 o_0 rfl rfl (Nat.le_of_ble_eq_true rfl) ⟨(Nat.le_of_ble_eq_true rfl), (Nat.le_of_ble_eq_true rfl)⟩ rfl rfl (Nat.le_of_ble_eq_true rfl) (Nat.le_of_ble_eq_true rfl) (fun r9 J_33 hq9 => ?_)
    obtain ⟨z_33, rfl, hz_33, s9, s8⟩ := hq9
    exact tz_iret (pc := 36) (z := z_33) dX11_variable_36 rfl (Nat.le_of_ble_eq_true rfl) (Nat.le_of_ble_eq_true rfl) ⟨Nat.le_refl _, Nat.le_add_right _ _⟩ ⟨_, rfl, (by omega), ⟨(s9.cq (by rw [g1.2.2.2.2 145 rfl, hb9 145 rfl]; omega) ((g1.2.2.2.2 0 rfl).trans (hb9 0 rfl)) ((g1.2.2.2.2.mono (fun c hc => by have := of_decide_eq_true hc; simp [zbut]; omega)).tr (hb9.mono (fun c hc => by have := of_decide_eq_true hc; simp [zbut]; omega)))), Or.inl ⟨by omega, act_end cc hI hj (g1.x (X := [])) rfl o1 s8⟩⟩⟩
  · rw [show (if 0 ≤ x ∧ x < 8 then 1 else 0 : Int) = 0 from if_neg hw_4]
    refine tz_if_neF (pc := 4) (tgt := 14) (by decide) dX11_variable_4 (by decide) (by decide) ?_
    refine tz_aload_n (pc := 7) dX11_variable_7 rfl rfl ?_
    refine tz_iconst (pc := 8) dX11_variable_8 ?_
    refine tz_iconst (pc := 9) dX11_variable_9 ?_
    refine tz_cV (pc := 10) (c_refused hl n _ _ _ (by decide) (by omega) (by decide)) vl_X11_284 dX11_variable_10 o_0 rfl rfl (Nat.le_of_ble_eq_true rfl) ⟨(Nat.le_of_ble_eq_true rfl), (Nat.le_of_ble_eq_true rfl)⟩ rfl rfl (Nat.le_of_ble_eq_true rfl) (Nat.le_of_ble_eq_true rfl) (fun r9 J_10 hq9 => ?_)
    obtain ⟨z_10, rfl, hz_10, f9, rfl⟩ := hq9
    exact tz_iret (pc := 13) (z := (-1)) dX11_variable_13 rfl (Nat.le_of_ble_eq_true rfl) (Nat.le_of_ble_eq_true rfl) ⟨Nat.le_refl _, Nat.le_add_right _ _⟩ ⟨_, rfl, (by decide), ⟨(SQ.cq ⟨⟨m, hI.st f9⟩, f9 145 rfl, f9 0 rfl, (f9.mono (fun c hc => by have := of_decide_eq_true hc; simp [zbut]; omega))⟩ (by omega) rfl zOf.rf), Or.inr ⟨by omega, rfl, cc.st hI f9⟩⟩⟩

set_option maxHeartbeats 4000000 in
set_option maxRecDepth 100000 in
theorem x_haveArgs {l : Launch} {G : tb_G} (hl : l.stackTraces = false) (n : Nat) (J : zJ) (u : Int) (a : Int) (b : Int) (c : Int) (hr_u : -2147483648 ≤ u ∧ u < 2147483648) (hr_a : -2147483648 ≤ a ∧ a < 2147483648) (hr_b : -2147483648 ≤ b ∧ b < 2147483648) (hr_c : -2147483648 ≤ c ∧ c < 2147483648)   : tz_Ok l G M_X11_haveArguments 1 0 0 [.ref 0, zi u, zi a, zi b, zi c] n J (zqi (fun z J' => J = J' ∧ (z = 0 ∨ z = 1) ∧ (z = 1 ↔ (0 < u → 0 ≤ a ∧ a < J 6 12) ∧ (1 < u → 0 ≤ b ∧ b < J 6 12) ∧ (2 < u → 0 ≤ c ∧ c < J 6 12)))) zN := by
  refine tz_Ok.of hl (by decide +kernel) rfl (tb_c1 rfl) (Nat.le_of_ble_eq_true rfl) ?_
  show tz_At l G M_X11_haveArguments (tb_rm 1 0 0) none (tb_ZM G 0 0 (zQ n 0 (zqi (fun z J' => J = J' ∧ (z = 0 ∨ z = 1) ∧ (z = 1 ↔ (0 < u → 0 ≤ a ∧ a < J 6 12) ∧ (1 < u → 0 ≤ b ∧ b < J 6 12) ∧ (2 < u → 0 ≤ c ∧ c < J 6 12))))) (zX n 0 zN)) 0 0 n J 0 [some (.ref 0), some (zi u), some (zi a), some (zi b), some (zi c), none] []
  refine tz_aload_n (pc := 0) dX11_haveArguments_0 rfl rfl ?_
  refine tz_fR (pc := 1) dX11_haveArguments_1 fl_X11_29 r_0_1 ?_
  refine tz_fR (pc := 4) dX11_haveArguments_4 fl_X11_49 r_5_0 ?_
  refine tz_astore (pc := 7) (L2 := [_, _, _, _, _, _]) dX11_haveArguments_7 (by decide) rfl ?_
  refine tz_iload_n (pc := 9) dX11_haveArguments_9 rfl rfl ?_
  refine tz_iconst (pc := 10) dX11_haveArguments_10 ?_
  refine tz_icmp_lt (pc := 11) (tgt := 23) dX11_haveArguments_11 (by decide) (by omega) (by decide) (fun h_11 => ?_) (fun h_11 => ?_)
  · refine tz_iload_n (pc := 23) dX11_haveArguments_23 rfl rfl ?_
    refine tz_iconst (pc := 24) dX11_haveArguments_24 ?_
    refine tz_icmp_lt (pc := 25) (tgt := 37) dX11_haveArguments_25 (by decide) (by omega) (by decide) (fun h_25 => ?_) (fun h_25 => ?_)
    · refine tz_iload_n (pc := 37) dX11_haveArguments_37 rfl rfl ?_
      refine tz_iconst (pc := 38) dX11_haveArguments_38 ?_
      refine tz_icmp_lt (pc := 39) (tgt := 52) dX11_haveArguments_39 (by decide) (by omega) (by decide) (fun h_39 => ?_) (fun h_39 => ?_)
      · refine tz_iconst (pc := 52) dX11_haveArguments_52 ?_
        refine tz_goto (pc := 53) (tgt := 57) dX11_haveArguments_53 (by decide) ?_
        exact tz_zret (pc := 57) (z := 1) dX11_haveArguments_57 rfl (Or.inr rfl) (Nat.le_of_ble_eq_true rfl) (Nat.le_of_ble_eq_true rfl) ⟨Nat.le_refl _, Nat.le_add_right _ _⟩ ⟨_, rfl, (by decide), ⟨rfl, by omega, by omega⟩⟩
      · refine tz_aload (pc := 42) dX11_haveArguments_42 rfl ?_
        refine tz_iload (pc := 44) dX11_haveArguments_44 rfl ?_
        refine tz_cV (pc := 46) (c_has hl n _ _ (by omega)) vl_X11_304 dX11_haveArguments_46 o_6 rfl rfl (Nat.le_of_ble_eq_true rfl) ⟨(Nat.le_of_ble_eq_true rfl), (Nat.le_of_ble_eq_true rfl)⟩ rfl rfl (Nat.le_of_ble_eq_true rfl) (Nat.le_of_ble_eq_true rfl) (fun r9 J_46 hq9 => ?_)
        obtain ⟨z_46, rfl, hz_46, rfl, rfl⟩ := hq9
        by_cases hw_49 : 0 ≤ c ∧ c < J 6 12
        · rw [show (if 0 ≤ c ∧ c < J 6 12 then 1 else 0 : Int) = 1 from if_pos hw_49]
          refine tz_if_eqF (pc := 49) (tgt := 56) (by decide) dX11_haveArguments_49 (by decide) (by decide) ?_
          refine tz_iconst (pc := 52) dX11_haveArguments_52 ?_
          refine tz_goto (pc := 53) (tgt := 57) dX11_haveArguments_53 (by decide) ?_
          exact tz_zret (pc := 57) (z := 1) dX11_haveArguments_57 rfl (Or.inr rfl) (Nat.le_of_ble_eq_true rfl) (Nat.le_of_ble_eq_true rfl) ⟨Nat.le_refl _, Nat.le_add_right _ _⟩ ⟨_, rfl, (by decide), ⟨rfl, by omega, by omega⟩⟩
        · rw [show (if 0 ≤ c ∧ c < J 6 12 then 1 else 0 : Int) = 0 from if_neg hw_49]
          refine tz_if_eqT (pc := 49) (tgt := 56) (by decide) dX11_haveArguments_49 (by decide) (by decide) ?_
          refine tz_iconst (pc := 56) dX11_haveArguments_56 ?_
          exact tz_zret (pc := 57) (z := 0) dX11_haveArguments_57 rfl (Or.inl rfl) (Nat.le_of_ble_eq_true rfl) (Nat.le_of_ble_eq_true rfl) ⟨Nat.le_refl _, Nat.le_add_right _ _⟩ ⟨_, rfl, (by decide), ⟨rfl, by omega, by omega⟩⟩
    · refine tz_aload (pc := 28) dX11_haveArguments_28 rfl ?_
      refine tz_iload_n (pc := 30) dX11_haveArguments_30 rfl rfl ?_
      refine tz_cV (pc := 31) (c_has hl n _ _ (by omega)) vl_X11_304 dX11_haveArguments_31 o_6 rfl rfl (Nat.le_of_ble_eq_true rfl) ⟨(Nat.le_of_ble_eq_true rfl), (Nat.le_of_ble_eq_true rfl)⟩ rfl rfl (Nat.le_of_ble_eq_true rfl) (Nat.le_of_ble_eq_true rfl) (fun r9 J_31 hq9 => ?_)
      obtain ⟨z_31, rfl, hz_31, rfl, rfl⟩ := hq9
      by_cases hw_34 : 0 ≤ b ∧ b < J 6 12
      · rw [show (if 0 ≤ b ∧ b < J 6 12 then 1 else 0 : Int) = 1 from if_pos hw_34]
        refine tz_if_eqF (pc := 34) (tgt := 56) (by decide) dX11_haveArguments_34 (by decide) (by decide) ?_
        refine tz_iload_n (pc := 37) dX11_haveArguments_37 rfl rfl ?_
        refine tz_iconst (pc := 38) dX11_haveArguments_38 ?_
        refine tz_icmp_lt (pc := 39) (tgt := 52) dX11_haveArguments_39 (by decide) (by omega) (by decide) (fun h_39 => ?_) (fun h_39 => ?_)
        · refine tz_iconst (pc := 52) dX11_haveArguments_52 ?_
          refine tz_goto (pc := 53) (tgt := 57) dX11_haveArguments_53 (by decide) ?_
          exact tz_zret (pc := 57) (z := 1) dX11_haveArguments_57 rfl (Or.inr rfl) (Nat.le_of_ble_eq_true rfl) (Nat.le_of_ble_eq_true rfl) ⟨Nat.le_refl _, Nat.le_add_right _ _⟩ ⟨_, rfl, (by decide), ⟨rfl, by omega, by omega⟩⟩
        · refine tz_aload (pc := 42) dX11_haveArguments_42 rfl ?_
          refine tz_iload (pc := 44) dX11_haveArguments_44 rfl ?_
          refine tz_cV (pc := 46) (c_has hl n _ _ (by omega)) vl_X11_304 dX11_haveArguments_46 o_6 rfl rfl (Nat.le_of_ble_eq_true rfl) ⟨(Nat.le_of_ble_eq_true rfl), (Nat.le_of_ble_eq_true rfl)⟩ rfl rfl (Nat.le_of_ble_eq_true rfl) (Nat.le_of_ble_eq_true rfl) (fun r9 J_46 hq9 => ?_)
          obtain ⟨z_46, rfl, hz_46, rfl, rfl⟩ := hq9
          by_cases hw_49 : 0 ≤ c ∧ c < J 6 12
          · rw [show (if 0 ≤ c ∧ c < J 6 12 then 1 else 0 : Int) = 1 from if_pos hw_49]
            refine tz_if_eqF (pc := 49) (tgt := 56) (by decide) dX11_haveArguments_49 (by decide) (by decide) ?_
            refine tz_iconst (pc := 52) dX11_haveArguments_52 ?_
            refine tz_goto (pc := 53) (tgt := 57) dX11_haveArguments_53 (by decide) ?_
            exact tz_zret (pc := 57) (z := 1) dX11_haveArguments_57 rfl (Or.inr rfl) (Nat.le_of_ble_eq_true rfl) (Nat.le_of_ble_eq_true rfl) ⟨Nat.le_refl _, Nat.le_add_right _ _⟩ ⟨_, rfl, (by decide), ⟨rfl, by omega, by omega⟩⟩
          · rw [show (if 0 ≤ c ∧ c < J 6 12 then 1 else 0 : Int) = 0 from if_neg hw_49]
            refine tz_if_eqT (pc := 49) (tgt := 56) (by decide) dX11_haveArguments_49 (by decide) (by decide) ?_
            refine tz_iconst (pc := 56) dX11_haveArguments_56 ?_
            exact tz_zret (pc := 57) (z := 0) dX11_haveArguments_57 rfl (Or.inl rfl) (Nat.le_of_ble_eq_true rfl) (Nat.le_of_ble_eq_true rfl) ⟨Nat.le_refl _, Nat.le_add_right _ _⟩ ⟨_, rfl, (by decide), ⟨rfl, by omega, by omega⟩⟩
      · rw [show (if 0 ≤ b ∧ b < J 6 12 then 1 else 0 : Int) = 0 from if_neg hw_34]
        refine tz_if_eqT (pc := 34) (tgt := 56) (by decide) dX11_haveArguments_34 (by decide) (by decide) ?_
        refine tz_iconst (pc := 56) dX11_haveArguments_56 ?_
        exact tz_zret (pc := 57) (z := 0) dX11_haveArguments_57 rfl (Or.inl rfl) (Nat.le_of_ble_eq_true rfl) (Nat.le_of_ble_eq_true rfl) ⟨Nat.le_refl _, Nat.le_add_right _ _⟩ ⟨_, rfl, (by decide), ⟨rfl, by omega, by omega⟩⟩
  · refine tz_aload (pc := 14) dX11_haveArguments_14 rfl ?_
    refine tz_iload_n (pc := 16) dX11_haveArguments_16 rfl rfl ?_
    refine tz_cV (pc := 17) (c_has hl n _ _ (by omega)) vl_X11_304 dX11_haveArguments_17 o_6 rfl rfl (Nat.le_of_ble_eq_true rfl) ⟨(Nat.le_of_ble_eq_true rfl), (Nat.le_of_ble_eq_true rfl)⟩ rfl rfl (Nat.le_of_ble_eq_true rfl) (Nat.le_of_ble_eq_true rfl) (fun r9 J_17 hq9 => ?_)
    obtain ⟨z_17, rfl, hz_17, rfl, rfl⟩ := hq9
    by_cases hw_20 : 0 ≤ a ∧ a < J 6 12
    · rw [show (if 0 ≤ a ∧ a < J 6 12 then 1 else 0 : Int) = 1 from if_pos hw_20]
      refine tz_if_eqF (pc := 20) (tgt := 56) (by decide) dX11_haveArguments_20 (by decide) (by decide) ?_
      refine tz_iload_n (pc := 23) dX11_haveArguments_23 rfl rfl ?_
      refine tz_iconst (pc := 24) dX11_haveArguments_24 ?_
      refine tz_icmp_lt (pc := 25) (tgt := 37) dX11_haveArguments_25 (by decide) (by omega) (by decide) (fun h_25 => ?_) (fun h_25 => ?_)
      · refine tz_iload_n (pc := 37) dX11_haveArguments_37 rfl rfl ?_
        refine tz_iconst (pc := 38) dX11_haveArguments_38 ?_
        refine tz_icmp_lt (pc := 39) (tgt := 52) dX11_haveArguments_39 (by decide) (by omega) (by decide) (fun h_39 => ?_) (fun h_39 => ?_)
        · refine tz_iconst (pc := 52) dX11_haveArguments_52 ?_
          refine tz_goto (pc := 53) (tgt := 57) dX11_haveArguments_53 (by decide) ?_
          exact tz_zret (pc := 57) (z := 1) dX11_haveArguments_57 rfl (Or.inr rfl) (Nat.le_of_ble_eq_true rfl) (Nat.le_of_ble_eq_true rfl) ⟨Nat.le_refl _, Nat.le_add_right _ _⟩ ⟨_, rfl, (by decide), ⟨rfl, by omega, by omega⟩⟩
        · refine tz_aload (pc := 42) dX11_haveArguments_42 rfl ?_
          refine tz_iload (pc := 44) dX11_haveArguments_44 rfl ?_
          refine tz_cV (pc := 46) (c_has hl n _ _ (by omega)) vl_X11_304 dX11_haveArguments_46 o_6 rfl rfl (Nat.le_of_ble_eq_true rfl) ⟨(Nat.le_of_ble_eq_true rfl), (Nat.le_of_ble_eq_true rfl)⟩ rfl rfl (Nat.le_of_ble_eq_true rfl) (Nat.le_of_ble_eq_true rfl) (fun r9 J_46 hq9 => ?_)
          obtain ⟨z_46, rfl, hz_46, rfl, rfl⟩ := hq9
          by_cases hw_49 : 0 ≤ c ∧ c < J 6 12
          · rw [show (if 0 ≤ c ∧ c < J 6 12 then 1 else 0 : Int) = 1 from if_pos hw_49]
            refine tz_if_eqF (pc := 49) (tgt := 56) (by decide) dX11_haveArguments_49 (by decide) (by decide) ?_
            refine tz_iconst (pc := 52) dX11_haveArguments_52 ?_
            refine tz_goto (pc := 53) (tgt := 57) dX11_haveArguments_53 (by decide) ?_
            exact tz_zret (pc := 57) (z := 1) dX11_haveArguments_57 rfl (Or.inr rfl) (Nat.le_of_ble_eq_true rfl) (Nat.le_of_ble_eq_true rfl) ⟨Nat.le_refl _, Nat.le_add_right _ _⟩ ⟨_, rfl, (by decide), ⟨rfl, by omega, by omega⟩⟩
          · rw [show (if 0 ≤ c ∧ c < J 6 12 then 1 else 0 : Int) = 0 from if_neg hw_49]
            refine tz_if_eqT (pc := 49) (tgt := 56) (by decide) dX11_haveArguments_49 (by decide) (by decide) ?_
            refine tz_iconst (pc := 56) dX11_haveArguments_56 ?_
            exact tz_zret (pc := 57) (z := 0) dX11_haveArguments_57 rfl (Or.inl rfl) (Nat.le_of_ble_eq_true rfl) (Nat.le_of_ble_eq_true rfl) ⟨Nat.le_refl _, Nat.le_add_right _ _⟩ ⟨_, rfl, (by decide), ⟨rfl, by omega, by omega⟩⟩
      · refine tz_aload (pc := 28) dX11_haveArguments_28 rfl ?_
        refine tz_iload_n (pc := 30) dX11_haveArguments_30 rfl rfl ?_
        refine tz_cV (pc := 31) (c_has hl n _ _ (by omega)) vl_X11_304 dX11_haveArguments_31 o_6 rfl rfl (Nat.le_of_ble_eq_true rfl) ⟨(Nat.le_of_ble_eq_true rfl), (Nat.le_of_ble_eq_true rfl)⟩ rfl rfl (Nat.le_of_ble_eq_true rfl) (Nat.le_of_ble_eq_true rfl) (fun r9 J_31 hq9 => ?_)
        obtain ⟨z_31, rfl, hz_31, rfl, rfl⟩ := hq9
        by_cases hw_34 : 0 ≤ b ∧ b < J 6 12
        · rw [show (if 0 ≤ b ∧ b < J 6 12 then 1 else 0 : Int) = 1 from if_pos hw_34]
          refine tz_if_eqF (pc := 34) (tgt := 56) (by decide) dX11_haveArguments_34 (by decide) (by decide) ?_
          refine tz_iload_n (pc := 37) dX11_haveArguments_37 rfl rfl ?_
          refine tz_iconst (pc := 38) dX11_haveArguments_38 ?_
          refine tz_icmp_lt (pc := 39) (tgt := 52) dX11_haveArguments_39 (by decide) (by omega) (by decide) (fun h_39 => ?_) (fun h_39 => ?_)
          · refine tz_iconst (pc := 52) dX11_haveArguments_52 ?_
            refine tz_goto (pc := 53) (tgt := 57) dX11_haveArguments_53 (by decide) ?_
            exact tz_zret (pc := 57) (z := 1) dX11_haveArguments_57 rfl (Or.inr rfl) (Nat.le_of_ble_eq_true rfl) (Nat.le_of_ble_eq_true rfl) ⟨Nat.le_refl _, Nat.le_add_right _ _⟩ ⟨_, rfl, (by decide), ⟨rfl, by omega, by omega⟩⟩
          · refine tz_aload (pc := 42) dX11_haveArguments_42 rfl ?_
            refine tz_iload (pc := 44) dX11_haveArguments_44 rfl ?_
            refine tz_cV (pc := 46) (c_has hl n _ _ (by omega)) vl_X11_304 dX11_haveArguments_46 o_6 rfl rfl (Nat.le_of_ble_eq_true rfl) ⟨(Nat.le_of_ble_eq_true rfl), (Nat.le_of_ble_eq_true rfl)⟩ rfl rfl (Nat.le_of_ble_eq_true rfl) (Nat.le_of_ble_eq_true rfl) (fun r9 J_46 hq9 => ?_)
            obtain ⟨z_46, rfl, hz_46, rfl, rfl⟩ := hq9
            by_cases hw_49 : 0 ≤ c ∧ c < J 6 12
            · rw [show (if 0 ≤ c ∧ c < J 6 12 then 1 else 0 : Int) = 1 from if_pos hw_49]
              refine tz_if_eqF (pc := 49) (tgt := 56) (by decide) dX11_haveArguments_49 (by decide) (by decide) ?_
              refine tz_iconst (pc := 52) dX11_haveArguments_52 ?_
              refine tz_goto (pc := 53) (tgt := 57) dX11_haveArguments_53 (by decide) ?_
              exact tz_zret (pc := 57) (z := 1) dX11_haveArguments_57 rfl (Or.inr rfl) (Nat.le_of_ble_eq_true rfl) (Nat.le_of_ble_eq_true rfl) ⟨Nat.le_refl _, Nat.le_add_right _ _⟩ ⟨_, rfl, (by decide), ⟨rfl, by omega, by omega⟩⟩
            · rw [show (if 0 ≤ c ∧ c < J 6 12 then 1 else 0 : Int) = 0 from if_neg hw_49]
              refine tz_if_eqT (pc := 49) (tgt := 56) (by decide) dX11_haveArguments_49 (by decide) (by decide) ?_
              refine tz_iconst (pc := 56) dX11_haveArguments_56 ?_
              exact tz_zret (pc := 57) (z := 0) dX11_haveArguments_57 rfl (Or.inl rfl) (Nat.le_of_ble_eq_true rfl) (Nat.le_of_ble_eq_true rfl) ⟨Nat.le_refl _, Nat.le_add_right _ _⟩ ⟨_, rfl, (by decide), ⟨rfl, by omega, by omega⟩⟩
        · rw [show (if 0 ≤ b ∧ b < J 6 12 then 1 else 0 : Int) = 0 from if_neg hw_34]
          refine tz_if_eqT (pc := 34) (tgt := 56) (by decide) dX11_haveArguments_34 (by decide) (by decide) ?_
          refine tz_iconst (pc := 56) dX11_haveArguments_56 ?_
          exact tz_zret (pc := 57) (z := 0) dX11_haveArguments_57 rfl (Or.inl rfl) (Nat.le_of_ble_eq_true rfl) (Nat.le_of_ble_eq_true rfl) ⟨Nat.le_refl _, Nat.le_add_right _ _⟩ ⟨_, rfl, (by decide), ⟨rfl, by omega, by omega⟩⟩
    · rw [show (if 0 ≤ a ∧ a < J 6 12 then 1 else 0 : Int) = 0 from if_neg hw_20]
      refine tz_if_eqT (pc := 20) (tgt := 56) (by decide) dX11_haveArguments_20 (by decide) (by decide) ?_
      refine tz_iconst (pc := 56) dX11_haveArguments_56 ?_
      exact tz_zret (pc := 57) (z := 0) dX11_haveArguments_57 rfl (Or.inl rfl) (Nat.le_of_ble_eq_true rfl) (Nat.le_of_ble_eq_true rfl) ⟨Nat.le_refl _, Nat.le_add_right _ _⟩ ⟨_, rfl, (by decide), ⟨rfl, by omega, by omega⟩⟩

set_option maxHeartbeats 4000000 in
set_option maxRecDepth 100000 in
theorem v_make {l : Launch} {G : tb_G} (hl : l.stackTraces = false) (n : Nat) (J : zJ) (s : Int) (a : Int) (b : Int) (c : Int) (hr_s : -2147483648 ≤ s ∧ s < 2147483648) (hr_a : -2147483648 ≤ a ∧ a < 2147483648) (hr_b : -2147483648 ≤ b ∧ b < 2147483648) (hr_c : -2147483648 ≤ c ∧ c < 2147483648) (m : Int) (S : zJ) (pn : Int) (RR : Int → Int → Int) (hI : CI J m) (h9 : J 145 10 < 1000000000) (cc : CAL J S pn RR) (h21 : S 164 21 = 0) : tz_Ok l G M_X11_make 6 0 0 [.ref 0, zi s, zi a, zi b, zi c] n J (zqi (fun z J' => CQ J' J ∧ ((((0 ≤ s ∧ s < J 1 3) ∧ (0 < J 3 s → 0 ≤ a ∧ a < J 6 12) ∧ (1 < J 3 s → 0 ≤ b ∧ b < J 6 12) ∧ (2 < J 3 s → 0 ≤ c ∧ c < J 6 12)) ∧ ED S pn RR (tmO S s a b c) J' z) ∨ (¬ ((0 ≤ s ∧ s < J 1 3) ∧ (0 < J 3 s → 0 ≤ a ∧ a < J 6 12) ∧ (1 < J 3 s → 0 ≤ b ∧ b < J 6 12) ∧ (2 < J 3 s → 0 ≤ c ∧ c < J 6 12)) ∧ z = -1 ∧ CAL J' S pn RR)))) zN := by
  refine tz_Ok.of hl (by decide +kernel) rfl (tb_c1 rfl) (Nat.le_of_ble_eq_true rfl) ?_
  show tz_At l G M_X11_make (tb_rm 6 0 0) none (tb_ZM G 0 0 (zQ n 0 (zqi (fun z J' => CQ J' J ∧ ((((0 ≤ s ∧ s < J 1 3) ∧ (0 < J 3 s → 0 ≤ a ∧ a < J 6 12) ∧ (1 < J 3 s → 0 ≤ b ∧ b < J 6 12) ∧ (2 < J 3 s → 0 ≤ c ∧ c < J 6 12)) ∧ ED S pn RR (tmO S s a b c) J' z) ∨ (¬ ((0 ≤ s ∧ s < J 1 3) ∧ (0 < J 3 s → 0 ≤ a ∧ a < J 6 12) ∧ (1 < J 3 s → 0 ≤ b ∧ b < J 6 12) ∧ (2 < J 3 s → 0 ≤ c ∧ c < J 6 12)) ∧ z = -1 ∧ CAL J' S pn RR))))) (zX n 0 zN)) 0 0 n J 0 [some (.ref 0), some (zi s), some (zi a), some (zi b), some (zi c)] []
  have hC := hI.1.1.1
  have hm := hI.1.1.2.1
  have hL := hI.1.1.2.2
  have hb := hC.told
  refine tz_aload_n (pc := 0) dX11_make_0 rfl rfl ?_
  refine tz_fR (pc := 1) dX11_make_1 fl_X11_10 r_0_0 ?_
  refine tz_iload_n (pc := 4) dX11_make_4 rfl rfl ?_
  refine tz_cV (pc := 5) (c_syHas hl n _ _ (by omega)) vl_X11_193 dX11_make_5 o_1 rfl rfl (Nat.le_of_ble_eq_true rfl) ⟨(Nat.le_of_ble_eq_true rfl), (Nat.le_of_ble_eq_true rfl)⟩ rfl rfl (Nat.le_of_ble_eq_true rfl) (Nat.le_of_ble_eq_true rfl) (fun r9 J_5 hq9 => ?_)
  obtain ⟨z_5, rfl, hz_5, rfl, rfl⟩ := hq9
  by_cases hw_8 : 0 ≤ s ∧ s < J 1 3
  · rw [show (if 0 ≤ s ∧ s < J 1 3 then 1 else 0 : Int) = 1 from if_pos hw_8]
    refine tz_if_eqF (pc := 8) (tgt := 31) (by decide) dX11_make_8 (by decide) (by decide) ?_
    refine tz_aload_n (pc := 11) dX11_make_11 rfl rfl ?_
    refine tz_aload_n (pc := 12) dX11_make_12 rfl rfl ?_
    refine tz_fR (pc := 13) dX11_make_13 fl_X11_10 r_0_0 ?_
    refine tz_fR (pc := 16) dX11_make_16 fl_X11_202 r_1_1 ?_
    refine tz_iload_n (pc := 19) dX11_make_19 rfl rfl ?_
    refine tz_aL (pc := 20) (z := s) (v := (J 3 s)) dX11_make_20 a_3 rfl (by omega) rfl (fun r_20 => ?_)
    refine tz_iload_n (pc := 21) dX11_make_21 rfl rfl ?_
    refine tz_iload_n (pc := 22) dX11_make_22 rfl rfl ?_
    refine tz_iload (pc := 23) dX11_make_23 rfl ?_
    refine tz_cV (pc := 25) (x_haveArgs hl n _ _ _ _ _ (by omega) (by omega) (by omega) (by omega)) vl_X11_296 dX11_make_25 o_0 rfl rfl (Nat.le_of_ble_eq_true rfl) ⟨(Nat.le_of_ble_eq_true rfl), (Nat.le_of_ble_eq_true rfl)⟩ rfl rfl (Nat.le_of_ble_eq_true rfl) (Nat.le_of_ble_eq_true rfl) (fun r9 J_25 hq9 => ?_)
    obtain ⟨zh, rfl, hz_25, rfl, ha0, ha1⟩ := hq9
    refine tz_if_ne (pc := 28) (tgt := 38) dX11_make_28 (by decide) (by omega) (fun h_28 => ?_) (fun h_28 => ?_)
    · refine tz_aload_n (pc := 38) dX11_make_38 rfl rfl ?_
      refine tz_fR (pc := 39) dX11_make_39 fl_X11_29 r_0_1 ?_
      refine tz_cV (pc := 42) (c_begin hl n _) vl_X11_287 dX11_make_42 o_5 rfl rfl (Nat.le_of_ble_eq_true rfl) ⟨(Nat.le_of_ble_eq_true rfl), (Nat.le_of_ble_eq_true rfl)⟩ rfl rfl (Nat.le_of_ble_eq_true rfl) (Nat.le_of_ble_eq_true rfl) (fun r9 Jb hq9 => ?_)
      obtain ⟨rfl, hj⟩ := hq9
      have hb9 : zOf (zbut [19, 61]) Jb J := by rw [← hj]; exact zOf.cp rfl (zOf.up rfl zOf.rf)
      have hb19 : ∀ k, ¬ k = 0 → Jb 19 k = J 19 k := fun k hk => by rw [← hj, zcp_nc (by decide), zup_ne hk]
      have a0 : AC Jb m m := by rw [← hj]; exact hI.begin
      have hb6 := a0.1.1.2.1
      obtain ⟨cb, kb, lb⟩ := cc.begin hI hj
      refine tz_aload_n (pc := 45) dX11_make_45 rfl rfl ?_
      refine tz_aload_n (pc := 46) dX11_make_46 rfl rfl ?_
      refine tz_fR (pc := 47) dX11_make_47 fl_X11_29 r_0_1 ?_
      refine tz_fR (pc := 50) dX11_make_50 fl_X11_49 r_5_0 ?_
      refine tz_iload_n (pc := 53) dX11_make_53 rfl rfl ?_
      refine tz_iload_n (pc := 54) dX11_make_54 rfl rfl ?_
      refine tz_iload_n (pc := 55) dX11_make_55 rfl rfl ?_
      refine tz_iload (pc := 56) dX11_make_56 rfl ?_
      have e1 := hb9 1 rfl
      have e3 : arh (Jb 3) s = J 3 s := by rw [hb9 3 rfl]; unfold arh; rw [if_neg (by omega)]
      have ha2 := ha1.1 (by omega)
      refine tz_cV (pc := 58) (c_made hl n _ _ _ _ _ (by omega) (by omega) (by omega) (by omega) m a0.1.1.1 a0.1.1.2.1 (by rw [e1]; omega) (by rw [e3]; exact ⟨by omega, by omega, by omega⟩)) vl_X11_300 dX11_make_58 o_6 rfl rfl (Nat.le_of_ble_eq_true rfl) ⟨(Nat.le_of_ble_eq_true rfl), (Nat.le_of_ble_eq_true rfl)⟩ rfl rfl (Nat.le_of_ble_eq_true rfl) (Nat.le_of_ble_eq_true rfl) (fun r9 J_58 hq9 => ?_)
      obtain ⟨z_58, rfl, hz_58, p1⟩ := hq9
      obtain ⟨m1, g1, h1⟩ := GR.made p1 (by omega)
      have a1 := a0.gx0 (g1.x (X := [])) rfl
      have o1 := cb.1.op (x := a) (y := b) (w := c) cb.2.1 a0.1.1.2.2 h21 a0.1.1.1 a0.1.1.2.1 (by rw [e1]; omega) ⟨fun q => rfl, fun q => rfl, fun q => rfl⟩ (by rw [e3, ← hm]; exact ha2) p1
      refine tz_cV (pc := 61) (x_settled hl n _ _ (by omega) m m1 a1) vl_X11_293 dX11_make_61 o_0 rfl rfl (Nat.le_of_ble_eq_true rfl) ⟨(Nat.le_of_ble_eq_true rfl), (Nat.le_of_ble_eq_true rfl)⟩ rfl rfl (Nat.le_of_ble_eq_true rfl) (Nat.le_of_ble_eq_true rfl) (fun r9 J_61 hq9 => ?_)
      obtain ⟨z_61, rfl, hz_61, s9, s8⟩ := hq9
      exact tz_iret (pc := 64) (z := z_61) dX11_make_64 rfl (Nat.le_of_ble_eq_true rfl) (Nat.le_of_ble_eq_true rfl) ⟨Nat.le_refl _, Nat.le_add_right _ _⟩ ⟨_, rfl, (by omega), ⟨(s9.cq (by rw [g1.2.2.2.2 145 rfl, hb9 145 rfl]; omega) ((g1.2.2.2.2 0 rfl).trans (hb9 0 rfl)) ((g1.2.2.2.2.mono (fun c hc => by have := of_decide_eq_true hc; simp [zbut]; omega)).tr (hb9.mono (fun c hc => by have := of_decide_eq_true hc; simp [zbut]; omega)))), Or.inl ⟨⟨by omega, ha2⟩, act_end cc hI hj (g1.x (X := [])) rfl o1 s8⟩⟩⟩
    · refine tz_aload_n (pc := 31) dX11_make_31 rfl rfl ?_
      refine tz_iconst (pc := 32) dX11_make_32 ?_
      refine tz_iconst (pc := 33) dX11_make_33 ?_
      refine tz_cV (pc := 34) (c_refused hl n _ _ _ (by decide) (by omega) (by decide)) vl_X11_284 dX11_make_34 o_0 rfl rfl (Nat.le_of_ble_eq_true rfl) ⟨(Nat.le_of_ble_eq_true rfl), (Nat.le_of_ble_eq_true rfl)⟩ rfl rfl (Nat.le_of_ble_eq_true rfl) (Nat.le_of_ble_eq_true rfl) (fun r9 J_34 hq9 => ?_)
      obtain ⟨z_34, rfl, hz_34, f9, rfl⟩ := hq9
      exact tz_iret (pc := 37) (z := (-1)) dX11_make_37 rfl (Nat.le_of_ble_eq_true rfl) (Nat.le_of_ble_eq_true rfl) ⟨Nat.le_refl _, Nat.le_add_right _ _⟩ ⟨_, rfl, (by decide), ⟨(SQ.cq ⟨⟨m, hI.st f9⟩, f9 145 rfl, f9 0 rfl, (f9.mono (fun c hc => by have := of_decide_eq_true hc; simp [zbut]; omega))⟩ (by omega) rfl zOf.rf), Or.inr ⟨fun q => by first | exact absurd q.1 (by omega) | exact absurd (ha1.2 q.2) (by omega), rfl, cc.st hI f9⟩⟩⟩
  · rw [show (if 0 ≤ s ∧ s < J 1 3 then 1 else 0 : Int) = 0 from if_neg hw_8]
    refine tz_if_eqT (pc := 8) (tgt := 31) (by decide) dX11_make_8 (by decide) (by decide) ?_
    refine tz_aload_n (pc := 31) dX11_make_31 rfl rfl ?_
    refine tz_iconst (pc := 32) dX11_make_32 ?_
    refine tz_iconst (pc := 33) dX11_make_33 ?_
    refine tz_cV (pc := 34) (c_refused hl n _ _ _ (by decide) (by omega) (by decide)) vl_X11_284 dX11_make_34 o_0 rfl rfl (Nat.le_of_ble_eq_true rfl) ⟨(Nat.le_of_ble_eq_true rfl), (Nat.le_of_ble_eq_true rfl)⟩ rfl rfl (Nat.le_of_ble_eq_true rfl) (Nat.le_of_ble_eq_true rfl) (fun r9 J_34 hq9 => ?_)
    obtain ⟨z_34, rfl, hz_34, f9, rfl⟩ := hq9
    exact tz_iret (pc := 37) (z := (-1)) dX11_make_37 rfl (Nat.le_of_ble_eq_true rfl) (Nat.le_of_ble_eq_true rfl) ⟨Nat.le_refl _, Nat.le_add_right _ _⟩ ⟨_, rfl, (by decide), ⟨(SQ.cq ⟨⟨m, hI.st f9⟩, f9 145 rfl, f9 0 rfl, (f9.mono (fun c hc => by have := of_decide_eq_true hc; simp [zbut]; omega))⟩ (by omega) rfl zOf.rf), Or.inr ⟨fun q => by first | exact absurd q.1 (by omega) | exact absurd (ha1.2 q.2) (by omega), rfl, cc.st hI f9⟩⟩⟩

