theorem ask_eq {za zb t8 ra V V2 : Int} {C C2 : Prop} (hc : C ↔ C2) (hv : C → V = V2) (a : (za = 0 ∧ C ∧ ra = V) ∨ (za = 1 ∧ ¬ C)) (b : (t8 = 0 ∧ C2 ∧ zb = V2) ∨ (t8 = 1 ∧ ¬ C2)) : t8 = za ∧ (za = 0 → ra = zb) := by
  rcases a with ⟨a1, a2, a3⟩ | ⟨a1, a2⟩ <;> rcases b with ⟨b1, b2, b3⟩ | ⟨b1, b2⟩
  · exact ⟨b1.trans a1.symm, fun _ => a3.trans ((hv a2).trans b3.symm)⟩
  · exact absurd (hc.1 a2) b2
  · exact absurd (hc.2 b2) a2
  · exact ⟨b1.trans a1.symm, fun w => absurd (w.symm.trans a1) (by decide)⟩
/-! ===== argument: what it answers ===== -/
set_option maxHeartbeats 4000000 in
set_option maxRecDepth 100000 in
theorem e_argument {l : Launch} {G : tb_G} (hl : l.stackTraces = false) (n : Nat) (J : zJ) (t : Int) (i : Int) (hr_t : -2147483648 ≤ t ∧ t < 2147483648) (hr_i : -2147483648 ≤ i ∧ i < 2147483648) (m : Int) (S : zJ) (pn : Int) (RR : Int → Int → Int) (hI : CI J m) (h9 : J 145 10 < 1000000000) (cc : CAL J S pn RR) (h21 : S 164 21 = 0) : tz_Ok l G M_X11_argument 7 1 6 [.ref 0, zi t, zi i] n J (zqi (fun z J' => CQ J' J ∧ CAL J' S pn RR ∧ ((0 ≤ t ∧ t < J 6 12) ∧ 0 ≤ i ∧ i < J 8 t) ∧ z = J 9 (t * 3 + i))) (fun E J' => E = "java/util/NoSuchElementException" ∧ J = J' ∧ ¬ ((0 ≤ t ∧ t < J 6 12) ∧ 0 ≤ i ∧ i < J 8 t)) := by
  refine tz_Ok.of hl (by decide +kernel) rfl (tb_c1 rfl) (Nat.le_of_ble_eq_true rfl) ?_
  show tz_At l G M_X11_argument (tb_rm 7 1 6) none (tb_ZM G 1 6 (zQ n 1 (zqi (fun z J' => CQ J' J ∧ CAL J' S pn RR ∧ ((0 ≤ t ∧ t < J 6 12) ∧ 0 ≤ i ∧ i < J 8 t) ∧ z = J 9 (t * 3 + i)))) (zX n 1 (fun E J' => E = "java/util/NoSuchElementException" ∧ J = J' ∧ ¬ ((0 ≤ t ∧ t < J 6 12) ∧ 0 ≤ i ∧ i < J 8 t)))) 0 0 n J 0 [some (.ref 0), some (zi t), some (zi i)] []
  have hC := hI.1.1.1
  have hm := hI.1.1.2.1
  have hL := hI.1.1.2.2
  have hb := hC.told
  refine tz_aload_n (pc := 0) dX11_argument_0 rfl rfl ?_
  refine tz_iload_n (pc := 1) dX11_argument_1 rfl rfl ?_
  by_cases hh_2 : 0 ≤ t ∧ t < J 6 12
  · refine tz_cV (pc := 2) (c_need1 hl n _ _ (by omega) hh_2) vl_X11_216 dX11_argument_2 o_0 rfl rfl (Nat.le_of_ble_eq_true rfl) ⟨(Nat.le_of_ble_eq_true rfl), (Nat.le_of_ble_eq_true rfl)⟩ rfl rfl (Nat.le_of_ble_eq_true rfl) (Nat.le_of_ble_eq_true rfl) (fun r9 J9 hq9 => ?_)
    obtain ⟨rfl, rfl⟩ := hq9
    refine tz_iload_n (pc := 5) dX11_argument_5 rfl rfl ?_
    refine tz_if_lt (pc := 6) (tgt := 25) dX11_argument_6 (by decide) (by omega) (fun h_6 => ?_) (fun h_6 => ?_)
    · exact tz_throwN (pc := 25) (text := "no such argument") th_X11_188_192 (by decide +kernel) rfl dX11_argument_25 dX11_argument_28 dX11_argument_29 dX11_argument_31 dX11_argument_34 (Nat.le_of_ble_eq_true rfl) (Nat.le_of_ble_eq_true rfl) (Nat.le_of_ble_eq_true rfl) (Nat.le_of_ble_eq_true rfl) (Nat.le_of_ble_eq_true rfl) (Nat.le_of_ble_eq_true rfl) ⟨Nat.le_refl _, Nat.le_add_right _ _⟩ ⟨rfl, rfl, by omega⟩
    · refine tz_iload_n (pc := 9) dX11_argument_9 rfl rfl ?_
      refine tz_aload_n (pc := 10) dX11_argument_10 rfl rfl ?_
      refine tz_fR (pc := 11) dX11_argument_11 fl_X11_29 r_0_1 ?_
      refine tz_fR (pc := 14) dX11_argument_14 fl_X11_49 r_5_0 ?_
      refine tz_fR (pc := 17) dX11_argument_17 fl_X11_249 r_6_2 ?_
      refine tz_iload_n (pc := 20) dX11_argument_20 rfl rfl ?_
      have ha := hC.ar (t := t) (by omega) (by omega)
      refine tz_aL (pc := 21) (z := t) (v := (J 8 t)) dX11_argument_21 a_8 rfl (by omega) rfl (fun r_21 => ?_)
      refine tz_icmp_lt (pc := 22) (tgt := 35) dX11_argument_22 (by decide) (by omega) (by omega) (fun h_22 => ?_) (fun h_22 => ?_)
      · refine tz_aload_n (pc := 35) dX11_argument_35 rfl rfl ?_
        refine tz_fR (pc := 36) dX11_argument_36 fl_X11_29 r_0_1 ?_
        refine tz_fR (pc := 39) dX11_argument_39 fl_X11_49 r_5_0 ?_
        refine tz_iload_n (pc := 42) dX11_argument_42 rfl rfl ?_
        refine tz_iload_n (pc := 43) dX11_argument_43 rfl rfl ?_
        have ha := hC.ar (t := t) (by omega) (by omega)
        refine tz_cV (pc := 44) (c_arg hl n _ _ _ (by omega) (by omega) (by omega)) vl_X11_252 dX11_argument_44 o_6 rfl rfl (Nat.le_of_ble_eq_true rfl) ⟨(Nat.le_of_ble_eq_true rfl), (Nat.le_of_ble_eq_true rfl)⟩ rfl rfl (Nat.le_of_ble_eq_true rfl) (Nat.le_of_ble_eq_true rfl) (fun r9 J_44 hq9 => ?_)
        obtain ⟨z_44, rfl, hz_44, rfl, rfl⟩ := hq9
        exact tz_iret (pc := 47) (z := (J 9 (t * 3 + i))) dX11_argument_47 rfl (Nat.le_of_ble_eq_true rfl) (Nat.le_of_ble_eq_true rfl) ⟨Nat.le_refl _, Nat.le_add_right _ _⟩ ⟨_, rfl, (by omega), ⟨CQ.rf hI, cc, by omega, by first | rfl | exact (if_pos (by omega)).symm | exact (if_neg (by omega)).symm⟩⟩
      · exact tz_throwN (pc := 25) (text := "no such argument") th_X11_188_192 (by decide +kernel) rfl dX11_argument_25 dX11_argument_28 dX11_argument_29 dX11_argument_31 dX11_argument_34 (Nat.le_of_ble_eq_true rfl) (Nat.le_of_ble_eq_true rfl) (Nat.le_of_ble_eq_true rfl) (Nat.le_of_ble_eq_true rfl) (Nat.le_of_ble_eq_true rfl) (Nat.le_of_ble_eq_true rfl) ⟨Nat.le_refl _, Nat.le_add_right _ _⟩ ⟨rfl, rfl, by omega⟩
  · refine tz_cVX (pc := 2) (c_need0 hl n _ _ (by omega) hh_2) vl_X11_216 dX11_argument_2 o_0 rfl rfl (Nat.le_of_ble_eq_true rfl) ⟨(Nat.le_of_ble_eq_true rfl), (Nat.le_of_ble_eq_true rfl)⟩ rfl rfl (Nat.le_of_ble_eq_true rfl) (Nat.le_of_ble_eq_true rfl) (fun r9 n9 J9 hn1 hn2 hq9 => hq9.elim) (fun E9 n9 J9 hn1 hn2 hx9 => ?_)
    obtain ⟨rfl, rfl⟩ := hx9
    exact tz_out rfl (Nat.le_of_ble_eq_true rfl) (Nat.le_of_ble_eq_true rfl) ⟨by omega, by omega⟩ ⟨rfl, rfl, by omega⟩

set_option maxHeartbeats 4000000 in
set_option maxRecDepth 100000 in
theorem m_right4 {l : Launch} {G : tb_G} (hl : l.stackTraces = false) (n : Nat) (J : zJ) (x : Int) (y : Int) (hr_x : -2147483648 ≤ x ∧ x < 2147483648) (hr_y : -2147483648 ≤ y ∧ y < 2147483648)  (hy : ¬ y = 0) : tz_Ok l G M_X12_right 0 0 0 [.ref 164, zi x, zi y] n J (zqi (fun z J' => (zOf (zbut [164]) J' J ∧ ∀ k, ¬ k = 8 → J' 164 k = J 164 k) ∧ (z = 0 ∨ z = 1) ∧ (z = 1 → J = J' ∧ J 164 8 = 0 ∧ (¬ x = 0 ∨ y = 0)) ∧ (J 164 8 = 0 → (z = 0 → J' 164 8 = y ∧ x = 0) ∧ (z = 1 → J' 164 8 = 0 ∧ ¬ x = 0)))) zN := by
  refine tz_Ok.of hl (by decide +kernel) rfl (tb_c1 rfl) (Nat.le_of_ble_eq_true rfl) ?_
  show tz_At l G M_X12_right (tb_rm 0 0 0) none (tb_ZM G 0 0 (zQ n 0 (zqi (fun z J' => (zOf (zbut [164]) J' J ∧ ∀ k, ¬ k = 8 → J' 164 k = J 164 k) ∧ (z = 0 ∨ z = 1) ∧ (z = 1 → J = J' ∧ J 164 8 = 0 ∧ (¬ x = 0 ∨ y = 0)) ∧ (J 164 8 = 0 → (z = 0 → J' 164 8 = y ∧ x = 0) ∧ (z = 1 → J' 164 8 = 0 ∧ ¬ x = 0))))) (zX n 0 zN)) 0 0 n J 0 [some (.ref 164), some (zi x), some (zi y)] []
  refine tz_aload_n (pc := 0) dX12_right_0 rfl rfl ?_
  refine tz_fI (pc := 1) (kz := 8) (v := (J 164 8)) dX12_right_1 fl_X12_68 i_164_8 rfl rfl (fun r_1 => ?_)
  refine tz_if_ne (pc := 4) (tgt := 16) dX12_right_4 (by decide) (by omega) (fun h_4 => ?_) (fun h_4 => ?_)
  · refine tz_aload_n (pc := 16) dX12_right_16 rfl rfl ?_
    refine tz_fI (pc := 17) (kz := 8) (v := (J 164 8)) dX12_right_17 fl_X12_68 i_164_8 rfl rfl (fun r_17 => ?_)
    refine tz_if_ne (pc := 20) (tgt := 27) dX12_right_20 (by decide) (by omega) (fun h_20 => ?_) (fun h_20 => ?_)
    · refine tz_iconst (pc := 27) dX12_right_27 ?_
      exact tz_zret (pc := 28) (z := 0) dX12_right_28 rfl (Or.inl rfl) (Nat.le_of_ble_eq_true rfl) (Nat.le_of_ble_eq_true rfl) ⟨Nat.le_refl _, Nat.le_add_right _ _⟩ ⟨_, rfl, (by decide), ⟨⟨zOf.rf, fun _ _ => rfl⟩, by omega, fun q9 => ⟨rfl, by omega, by omega⟩, fun w9 => ⟨fun q9 => by omega, fun q9 => by omega⟩⟩⟩
    · refine tz_iconst (pc := 23) dX12_right_23 ?_
      refine tz_goto (pc := 24) (tgt := 28) dX12_right_24 (by decide) ?_
      exact tz_zret (pc := 28) (z := 1) dX12_right_28 rfl (Or.inr rfl) (Nat.le_of_ble_eq_true rfl) (Nat.le_of_ble_eq_true rfl) ⟨Nat.le_refl _, Nat.le_add_right _ _⟩ ⟨_, rfl, (by decide), ⟨⟨zOf.rf, fun _ _ => rfl⟩, by omega, fun q9 => ⟨rfl, by omega, by omega⟩, fun w9 => ⟨fun q9 => absurd q9 (by omega), fun q9 => ⟨by omega, by omega⟩⟩⟩⟩
  · refine tz_iload_n (pc := 7) dX12_right_7 rfl rfl ?_
    refine tz_if_ne (pc := 8) (tgt := 16) dX12_right_8 (by decide) (by omega) (fun h_8 => ?_) (fun h_8 => ?_)
    · refine tz_aload_n (pc := 16) dX12_right_16 rfl rfl ?_
      refine tz_fI (pc := 17) (kz := 8) (v := (J 164 8)) dX12_right_17 fl_X12_68 i_164_8 rfl rfl (fun r_17 => ?_)
      refine tz_if_ne (pc := 20) (tgt := 27) dX12_right_20 (by decide) (by omega) (fun h_20 => ?_) (fun h_20 => ?_)
      · refine tz_iconst (pc := 27) dX12_right_27 ?_
        exact tz_zret (pc := 28) (z := 0) dX12_right_28 rfl (Or.inl rfl) (Nat.le_of_ble_eq_true rfl) (Nat.le_of_ble_eq_true rfl) ⟨Nat.le_refl _, Nat.le_add_right _ _⟩ ⟨_, rfl, (by decide), ⟨⟨zOf.rf, fun _ _ => rfl⟩, by omega, fun q9 => ⟨rfl, by omega, by omega⟩, fun w9 => ⟨fun q9 => by omega, fun q9 => by omega⟩⟩⟩
      · refine tz_iconst (pc := 23) dX12_right_23 ?_
        refine tz_goto (pc := 24) (tgt := 28) dX12_right_24 (by decide) ?_
        exact tz_zret (pc := 28) (z := 1) dX12_right_28 rfl (Or.inr rfl) (Nat.le_of_ble_eq_true rfl) (Nat.le_of_ble_eq_true rfl) ⟨Nat.le_refl _, Nat.le_add_right _ _⟩ ⟨_, rfl, (by decide), ⟨⟨zOf.rf, fun _ _ => rfl⟩, by omega, fun q9 => ⟨rfl, by omega, by omega⟩, fun w9 => ⟨fun q9 => absurd q9 (by omega), fun q9 => ⟨by omega, by omega⟩⟩⟩⟩
    · refine tz_aload_n (pc := 11) dX12_right_11 rfl rfl ?_
      refine tz_iload_n (pc := 12) dX12_right_12 rfl rfl ?_
      refine tz_pI (pc := 13) (kz := 8) dX12_right_13 fl_X12_68 i_164_8 rfl rfl (by omega) ?_
      refine tz_aload_n (pc := 16) dX12_right_16 rfl rfl ?_
      refine tz_fI (pc := 17) (kz := 8) (v := y) dX12_right_17 fl_X12_68 i_164_8 rfl rfl (fun r_17 => ?_)
      refine tz_if_ne (pc := 20) (tgt := 27) dX12_right_20 (by decide) (by omega) (fun h_20 => ?_) (fun h_20 => ?_)
      · refine tz_iconst (pc := 27) dX12_right_27 ?_
        exact tz_zret (pc := 28) (z := 0) dX12_right_28 rfl (Or.inl rfl) (Nat.le_of_ble_eq_true rfl) (Nat.le_of_ble_eq_true rfl) ⟨Nat.le_refl _, Nat.le_add_right _ _⟩ ⟨_, rfl, (by decide), ⟨⟨zOf.up rfl zOf.rf, fun k hk => zup_ne hk⟩, by omega, fun q9 => by omega, fun w9 => ⟨fun q9 => ⟨zup_at, by omega⟩, fun q9 => by omega⟩⟩⟩
      · refine tz_iconst (pc := 23) dX12_right_23 ?_
        refine tz_goto (pc := 24) (tgt := 28) dX12_right_24 (by decide) ?_
        exact tz_zret (pc := 28) (z := 1) dX12_right_28 rfl (Or.inr rfl) (Nat.le_of_ble_eq_true rfl) (Nat.le_of_ble_eq_true rfl) ⟨Nat.le_refl _, Nat.le_add_right _ _⟩ ⟨_, rfl, (by decide), ⟨⟨zOf.up rfl zOf.rf, fun k hk => zup_ne hk⟩, by omega, fun q9 => by omega, fun w9 => ⟨fun q9 => ⟨zup_at, by omega⟩, fun q9 => by omega⟩⟩⟩

set_option maxHeartbeats 4000000 in
set_option maxRecDepth 100000 in
theorem m_isTermNow4 {l : Launch} {G : tb_G} (hl : l.stackTraces = false) (n : Nat) (J : zJ) (t : Int) (hr_t : -2147483648 ≤ t ∧ t < 2147483648)  (h0 : 0 ≤ J 165 0) : tz_Ok l G M_X12_isTermNow 2 0 0 [.ref 164, zi t] n J (zqi (fun z J' => (zOf (zbut [164]) J' J ∧ ∀ k, ¬ k = 8 → J' 164 k = J 164 k) ∧ (z = 0 ∨ z = 1) ∧ (z = 1 → 0 ≤ t ∧ t < J 165 0) ∧ (J 164 8 = 0 → (z = 0 → J' 164 8 = 1 ∧ ¬ (0 ≤ t ∧ t < J 165 0)) ∧ (z = 1 → J' 164 8 = 0 ∧ 0 ≤ t ∧ t < J 165 0)))) zN := by
  refine tz_Ok.of hl (by decide +kernel) rfl (tb_c1 rfl) (Nat.le_of_ble_eq_true rfl) ?_
  show tz_At l G M_X12_isTermNow (tb_rm 2 0 0) none (tb_ZM G 0 0 (zQ n 0 (zqi (fun z J' => (zOf (zbut [164]) J' J ∧ ∀ k, ¬ k = 8 → J' 164 k = J 164 k) ∧ (z = 0 ∨ z = 1) ∧ (z = 1 → 0 ≤ t ∧ t < J 165 0) ∧ (J 164 8 = 0 → (z = 0 → J' 164 8 = 1 ∧ ¬ (0 ≤ t ∧ t < J 165 0)) ∧ (z = 1 → J' 164 8 = 0 ∧ 0 ≤ t ∧ t < J 165 0))))) (zX n 0 zN)) 0 0 n J 0 [some (.ref 164), some (zi t)] []
  refine tz_aload_n (pc := 0) dX12_isTermNow_0 rfl rfl ?_
  refine tz_aload_n (pc := 1) dX12_isTermNow_1 rfl rfl ?_
  refine tz_iload_n (pc := 2) dX12_isTermNow_2 rfl rfl ?_
  refine tz_cV (pc := 3) (m_isTerm hl n _ _ (by omega) h0) vl_X12_376 dX12_isTermNow_3 o_164 rfl rfl (Nat.le_of_ble_eq_true rfl) ⟨(Nat.le_of_ble_eq_true rfl), (Nat.le_of_ble_eq_true rfl)⟩ rfl rfl (Nat.le_of_ble_eq_true rfl) (Nat.le_of_ble_eq_true rfl) (fun r9 J_3 hq9 => ?_)
  obtain ⟨z_3, rfl, hz_3, rfl, ht9⟩ := hq9
  refine tz_iconst (pc := 6) dX12_isTermNow_6 ?_
  refine tz_cV (pc := 7) (m_right4 hl n _ _ _ (by omega) (by decide) (by decide)) vl_X12_334 dX12_isTermNow_7 o_164 rfl rfl (Nat.le_of_ble_eq_true rfl) ⟨(Nat.le_of_ble_eq_true rfl), (Nat.le_of_ble_eq_true rfl)⟩ rfl rfl (Nat.le_of_ble_eq_true rfl) (Nat.le_of_ble_eq_true rfl) (fun r9 J_7 hq9 => ?_)
  obtain ⟨z_7, rfl, hz_7, f9, b9, c9, w9⟩ := hq9
  exact tz_zret (pc := 10) (z := z_7) dX12_isTermNow_10 rfl (by omega) (Nat.le_of_ble_eq_true rfl) (Nat.le_of_ble_eq_true rfl) ⟨Nat.le_refl _, Nat.le_add_right _ _⟩ ⟨_, rfl, (by omega), ⟨f9, b9, fun q9 => by have := (c9 q9).2.2; omega, fun y9 => ⟨fun q9 => ⟨((w9 y9).1 q9).1, by have := ((w9 y9).1 q9).2; omega⟩, fun q9 => ⟨((w9 y9).2 q9).1, by have := ((w9 y9).2 q9).2; omega⟩⟩⟩⟩

set_option maxHeartbeats 4000000 in
set_option maxRecDepth 100000 in
theorem e_qargument {l : Launch} {G : tb_G} (hl : l.stackTraces = false) (n : Nat) (J : zJ) (x : Int) (y : Int) (hr_x : -2147483648 ≤ x ∧ x < 2147483648) (hr_y : -2147483648 ≤ y ∧ y < 2147483648) (m : Int) (pn : Int) (RR : Int → Int → Int) (hI : MI J m) (u9 : MUr J pn RR) : tz_Ok l G M_X12_argument 3 0 0 [.ref 164, zi x, zi y] n J (zqi (fun z J' => MQr J' J ∧ MFI J' J ∧ MBT J' (tbz J) ∧ MUr J' pn RR ∧ J' 183 = J 183 ∧ ((J' 164 8 = 0 ∧ ((0 ≤ x ∧ x < J 165 0) ∧ 0 ≤ y ∧ y ≤ mar J 0 0 x - 1) ∧ z = J 167 (3 * (0 + x) + y)) ∨ (J' 164 8 = 1 ∧ ¬ ((0 ≤ x ∧ x < J 165 0) ∧ 0 ≤ y ∧ y ≤ mar J 0 0 x - 1))))) zN := by
  refine tz_Ok.of hl (by decide +kernel) rfl (tb_c1 rfl) (Nat.le_of_ble_eq_true rfl) ?_
  show tz_At l G M_X12_argument (tb_rm 3 0 0) none (tb_ZM G 0 0 (zQ n 0 (zqi (fun z J' => MQr J' J ∧ MFI J' J ∧ MBT J' (tbz J) ∧ MUr J' pn RR ∧ J' 183 = J 183 ∧ ((J' 164 8 = 0 ∧ ((0 ≤ x ∧ x < J 165 0) ∧ 0 ≤ y ∧ y ≤ mar J 0 0 x - 1) ∧ z = J 167 (3 * (0 + x) + y)) ∨ (J' 164 8 = 1 ∧ ¬ ((0 ≤ x ∧ x < J 165 0) ∧ 0 ≤ y ∧ y ≤ mar J 0 0 x - 1)))))) (zX n 0 zN)) 0 0 n J 0 [some (.ref 164), some (zi x), some (zi y)] []
  have hT := hI.told
  have hW := hI.row
  have hM := hI.1
  have hL := hI.2.1
  refine tz_aload_n (pc := 0) dX12_argument_0 rfl rfl ?_
  refine tz_iconst (pc := 1) dX12_argument_1 ?_
  refine tz_pI (pc := 2) (kz := 8) dX12_argument_2 fl_X12_68 i_164_8 rfl rfl (by decide) ?_
  refine tz_aload_n (pc := 5) dX12_argument_5 rfl rfl ?_
  refine tz_iload_n (pc := 6) dX12_argument_6 rfl rfl ?_
  refine tz_cV (pc := 7) (m_isTermNow4 hl n _ _ (by omega) (by rw [(show ((zup J 164 8 0) : zJ) 165 0 = (J 165 0) from rfl)]; omega)) vl_X12_379 dX12_argument_7 o_164 rfl rfl (Nat.le_of_ble_eq_true rfl) ⟨(Nat.le_of_ble_eq_true rfl), (Nat.le_of_ble_eq_true rfl)⟩ rfl rfl (Nat.le_of_ble_eq_true rfl) (Nat.le_of_ble_eq_true rfl) (fun r9 J_7 hq9 => ?_)
  obtain ⟨z_7, rfl, hz_7, f_7, b_7, c_7, w_7⟩ := hq9
  have v_7 := w_7 zup_at
  have x_7 : MZ J_7 (zup J 164 8 0) := MZ.f f_7 (by decide) (by decide)
  have y_7 := MZ.tr (MZ.up (k := 8) MZ.rf (by decide)) x_7
  rw [(show ((zup J 164 8 0) : zJ) 165 0 = (J 165 0) from rfl)] at c_7
  rw [(show ((zup J 164 8 0) : zJ) 165 0 = (J 165 0) from rfl)] at v_7
  refine tz_if_eq (pc := 10) (tgt := 42) dX12_argument_10 (by decide) (by omega) (fun h_10 => ?_) (fun h_10 => ?_)
  · refine tz_iconst (pc := 42) dX12_argument_42 ?_
    exact tz_iret (pc := 43) (z := 0) dX12_argument_43 rfl (Nat.le_of_ble_eq_true rfl) (Nat.le_of_ble_eq_true rfl) ⟨Nat.le_refl _, Nat.le_add_right _ _⟩ ⟨_, rfl, (by decide), ⟨MQr.z hI y_7, MFI.z y_7, MBT.z hI y_7, u9.z y_7, y_7.1 183 rfl, by first | exact Or.inl ⟨(v_7.2 (by omega)).1, by omega, rfl⟩ | exact Or.inr ⟨(v_7.1 (by omega)).1, by omega⟩⟩⟩
  · refine tz_aload_n (pc := 13) dX12_argument_13 rfl rfl ?_
    refine tz_iload_n (pc := 14) dX12_argument_14 rfl rfl ?_
    refine tz_iconst (pc := 15) dX12_argument_15 ?_
    refine tz_aload_n (pc := 16) dX12_argument_16 rfl rfl ?_
    refine tz_iload_n (pc := 17) dX12_argument_17 rfl rfl ?_
    refine tz_cV (pc := 18) (m_arity hl n _ _ (by omega) 0 0 0 (J 164 9) m (hM.z y_7) (by omega) ) vl_X12_111 dX12_argument_18 o_164 rfl rfl (Nat.le_of_ble_eq_true rfl) ⟨(Nat.le_of_ble_eq_true rfl), (Nat.le_of_ble_eq_true rfl)⟩ rfl rfl (Nat.le_of_ble_eq_true rfl) (Nat.le_of_ble_eq_true rfl) (fun r9 J_18 hq9 => ?_)
    obtain ⟨z_18, rfl, hz_18, rfl, hh_18⟩ := hq9
    have ha_18 := ((hM.z y_7).ar (t := x) (by omega)).1
    rw [hh_18] at ha_18
    have hr_18 : mar J 0 0 x = z_18 := by rw [← hh_18]; unfold mar; rw [y_7.1 170 rfl, y_7.1 166 rfl]
    refine tz_iconst (pc := 21) dX12_argument_21 ?_
    refine tz_isub (pc := 22) (v := z_18 - 1) dX12_argument_22 rfl ?_
    refine tz_cS (pc := 23) (m_within hl n _ _ _ _ (by omega) (by decide) (by omega)) sl_X12_283 dX12_argument_23 rfl rfl (Nat.le_of_ble_eq_true rfl) ⟨(Nat.le_of_ble_eq_true rfl), (Nat.le_of_ble_eq_true rfl)⟩ rfl rfl (Nat.le_of_ble_eq_true rfl) (Nat.le_of_ble_eq_true rfl) (fun r9 J_23 hq9 => ?_)
    obtain ⟨z_23, rfl, hz_23, rfl, hw_23⟩ := hq9
    refine tz_iconst (pc := 26) dX12_argument_26 ?_
    refine tz_cV (pc := 27) (m_right4 hl n _ _ _ (by omega) (by decide) (by decide)) vl_X12_334 dX12_argument_27 o_164 rfl rfl (Nat.le_of_ble_eq_true rfl) ⟨(Nat.le_of_ble_eq_true rfl), (Nat.le_of_ble_eq_true rfl)⟩ rfl rfl (Nat.le_of_ble_eq_true rfl) (Nat.le_of_ble_eq_true rfl) (fun r9 J_27 hq9 => ?_)
    obtain ⟨z_27, rfl, hz_27, f_27, b_27, c_27, w_27⟩ := hq9
    have v_27 := w_27 ((v_7.2 (by omega)).1)
    have x_27 : MZ J_27 J_7 := MZ.f f_27 (by decide) (by decide)
    have y_27 := MZ.tr y_7 x_27
    have e_27 : z_27 = 1 → ¬ z_23 = 0 := fun q9 => (c_27 q9).2.2.resolve_right (by decide)
    refine tz_if_eq (pc := 30) (tgt := 42) dX12_argument_30 (by decide) (by omega) (fun h_30 => ?_) (fun h_30 => ?_)
    · refine tz_iconst (pc := 42) dX12_argument_42 ?_
      exact tz_iret (pc := 43) (z := 0) dX12_argument_43 rfl (Nat.le_of_ble_eq_true rfl) (Nat.le_of_ble_eq_true rfl) ⟨Nat.le_refl _, Nat.le_add_right _ _⟩ ⟨_, rfl, (by decide), ⟨MQr.z hI y_27, MFI.z y_27, MBT.z hI y_27, u9.z y_27, y_27.1 183 rfl, by first | exact Or.inl ⟨(v_27.2 (by omega)).1, by omega, rfl⟩ | exact Or.inr ⟨(v_27.1 (by omega)).1, by omega⟩⟩⟩
    · refine tz_aload_n (pc := 33) dX12_argument_33 rfl rfl ?_
      refine tz_iload_n (pc := 34) dX12_argument_34 rfl rfl ?_
      refine tz_iload_n (pc := 35) dX12_argument_35 rfl rfl ?_
      refine tz_cV (pc := 36) (m_arg hl n _ _ _ (by omega) (by omega) 0 0 0 (J 164 9) m (hM.z y_27) (by omega) (by omega) ) vl_X12_88 dX12_argument_36 o_164 rfl rfl (Nat.le_of_ble_eq_true rfl) ⟨(Nat.le_of_ble_eq_true rfl), (Nat.le_of_ble_eq_true rfl)⟩ rfl rfl (Nat.le_of_ble_eq_true rfl) (Nat.le_of_ble_eq_true rfl) (fun r9 J_36 hq9 => ?_)
      obtain ⟨z_36, rfl, hz_36, rfl, hh_36⟩ := hq9
      refine tz_goto (pc := 39) (tgt := 43) dX12_argument_39 (by decide) ?_
      exact tz_iret (pc := 43) (z := z_36) dX12_argument_43 rfl (Nat.le_of_ble_eq_true rfl) (Nat.le_of_ble_eq_true rfl) ⟨Nat.le_refl _, Nat.le_add_right _ _⟩ ⟨_, rfl, (by omega), ⟨MQr.z hI y_27, MFI.z y_27, MBT.z hI y_27, u9.z y_27, y_27.1 183 rfl, by first | exact Or.inl ⟨(v_27.2 (by omega)).1, by omega, (hh_36.symm.trans (congrFun (y_27.1 167 rfl) _))⟩ | exact Or.inr ⟨(v_27.1 (by omega)).1, by omega⟩⟩⟩

theorem ask_argument {J J1 : zJ} {n m a b : Int} {R : Int → Int → Int} (c0 : CAL J (tbz J) n R) (hI : CI J m) (f : ∀ q, 164 ≤ q → q < 183 → J1 q = J q) : (((0 ≤ a ∧ a < J 6 12) ∧ 0 ≤ b ∧ b < J 8 a) ↔ ((0 ≤ a ∧ a < J1 165 0) ∧ 0 ≤ b ∧ b ≤ mar J1 0 0 a - 1)) ∧ (((0 ≤ a ∧ a < J 6 12) ∧ 0 ≤ b ∧ b < J 8 a) → J 9 (a * 3 + b) = J1 167 (3 * (0 + a) + b)) := by
  obtain ⟨E13, E6, E39, E9, E26, E40, Eb, Ea, Em⟩ := al_eq c0 hI
  have w := c0.2.1
  have g5 : J1 165 = J 165 := f 165 (by decide) (by decide)
  have z5 : ∀ k, 0 ≤ k → k < 63 → tbz J 165 k = J 165 k := fun k a b => if_pos ⟨a, b⟩
  have lb := hI.1.1.2.2
  have hm := hI.1.1.2.1
  have hb := hI.1.1.1.told
  have g0 : J1 170 = J 170 := f 170 (by decide) (by decide)
  have g6 : J1 166 = J 166 := f 166 (by decide) (by decide)
  have g7 : J1 167 = J 167 := f 167 (by decide) (by decide)
  have ar : (0 ≤ a ∧ a < J 6 12) → mar J1 0 0 a = J 8 a := fun q => by
    obtain ⟨t1, t, _⟩ := c0.1.tm hI.1.1.1 hm (t := a) (by omega)
    rw [← t]
    have ha := hI.1.1.1.ar (t := a) (by omega) (by omega)
    have t6 : tbz J 166 (0 + a) = J 166 (0 + a) := tbz_6 ⟨by omega, by omega⟩
    show arh (fun k => J1 170 (0 + k)) (J1 166 (0 + a)) = arh (fun k => tbz J 170 (0 + k)) (tbz J 166 (0 + a))
    rw [g0, g6, t6]
    rw [t6] at t1
    unfold arh
    by_cases h : J 166 (0 + a) < 0
    · rw [if_pos h, if_pos h]
    · rw [if_neg h, if_neg h]
      exact (if_pos ⟨by omega, by omega⟩ : tbz J 170 (0 + J 166 (0 + a)) = J 170 (0 + J 166 (0 + a))).symm
  rw [g5, g7]
  refine ⟨⟨fun q => ⟨by omega, by rw [ar q.1]; omega⟩, fun q => ?_⟩, fun q => ?_⟩
  · have e := ar ⟨q.1.1, by omega⟩
    exact ⟨by omega, by omega⟩
  · have t := (c0.1.tm hI.1.1.1 hm (t := a) (by omega)).2.2 b q.2.1 q.2.2
    have ha := hI.1.1.1.ar (t := a) (by omega) (by omega)
    rw [← t]
    exact if_pos ⟨by omega, by omega⟩
