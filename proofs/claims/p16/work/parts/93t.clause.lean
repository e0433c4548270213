/-! ===== clauses of a text: the reference follows the reading ===== -/
theorem RelM.far {J' J g g' : zJ} (h : RelM J g) (h0 : ¬ g 0 4 = 0) (e43 : J' 164 43 = J 164 43) (e20 : J' 164 20 = J 164 20) (e4 : g' 0 4 = g 0 4) (e5 : g' 0 5 = g 0 5) : RelM J' g' := ⟨by rw [e43, e4]; exact h.1, fun _ => by rw [e20, e5]; exact h.2.1 h0, fun q => absurd (e4.symm.trans q) h0⟩
theorem RelM.sym {J g : zJ} {c n w : Int} (h : RelM J g) (h0 : g 0 4 = 0) : RelM (zup (zup (zup (zup J 169 (10 + J 164 44) c) 170 (10 + J 164 44) n) 171 (10 + J 164 44) w) 164 44 (J 164 44 + 1)) (pSm g c n w) := by
  obtain ⟨h1, h2, h3⟩ := h
  obtain ⟨k1, e1, e2, ⟨e3, e4, e5⟩, e6, e7, e8, e9⟩ := h3 h0
  refine ⟨h1, fun q => absurd h0 q, fun _ => ⟨?_, e1, e2, ⟨?_, e4, e5⟩, e6, e7, e8, fun k a b => ⟨?_, ?_, ?_⟩⟩⟩
  · exact k1
  · show J 164 44 + 1 = g 164 44 + 1
    rw [e3]
  · show (if k = 10 + J 164 44 then c else J 169 k) = if k = 10 + g 164 44 then c else g 169 k
    rw [e3, (e9 k a b).1]
  · show (if k = 10 + J 164 44 then n else J 170 k) = if k = 10 + g 164 44 then n else g 170 k
    rw [e3, (e9 k a b).2.1]
  · show (if k = 10 + J 164 44 then w else J 171 k) = if k = 10 + g 164 44 then w else g 171 k
    rw [e3, (e9 k a b).2.2]
theorem pU_0 {g : zJ} {a b : Int} (h : (pU g a b).1 0 4 = 0) : g 0 4 = 0 := Classical.byContradiction (fun e => e (by rw [pU_f e] at h; exact h))
theorem pSy_f {g : zJ} (h : g 164 44 < 10) (h1 : ¬ (pS1 g).1 0 4 = 0) : pSy g = (pS1 g).1 := by
  have e2 : (pS2 g).1 = (pS1 g).1 := by unfold pS2; rw [pU_f h1]
  have e3 : (pS3 g).1 = (pS1 g).1 := by unfold pS3; rw [pU_f (by rw [e2]; exact h1)]; exact e2
  unfold pSy
  rw [if_pos h, e3, if_neg h1]
theorem RelM.room {J g : zJ} {z : Int} (h : RelM J g) (h0 : g 0 4 = 0) : RelM (zup (zup J 165 165 z) 164 45 1) (zup (zup g 165 165 z) 164 45 1) := by
  obtain ⟨h1, h2, h3⟩ := h
  obtain ⟨k1, e1, e2, ⟨e3, e4, e5⟩, e6, e7, e8, e9⟩ := h3 h0
  refine ⟨h1, fun q => absurd h0 q, fun _ => ⟨k1, e1, e2, ⟨e3, rfl, e5⟩, fun k a b => ?_, e7, e8, e9⟩⟩
  show (if k = 165 then z else J 165 k) = if k = 165 then z else g 165 k
  rw [e6 k a b]
set_option maxHeartbeats 4000000 in
set_option maxRecDepth 100000 in
theorem y_symbol1 {l : Launch} {G : tb_G} (hl : l.stackTraces = false) (n : Nat) (J : zJ)   (g : zJ) (hR : RelM J g) (h9 : g 0 4 = 0) (hS : SI g) (hP : RSP J) (h0a : 0 ≤ J 164 44 ∧ J 164 44 ≤ 10) : tz_Ok l G M_X12_symbol1 4 0 0 [.ref 164] n J (zqv (fun J' => RSy J' J ∧ RelM J' (pSy g) ∧ (J' 164 44 = J 164 44 + 1 → 1 ≤ J' 171 (10 + J 164 44) ∧ J' 171 (10 + J 164 44) ≤ 9))) zN := by
  refine tz_Ok.of hl (by decide +kernel) rfl (tb_c1 rfl) (Nat.le_of_ble_eq_true rfl) ?_
  show tz_At l G M_X12_symbol1 (tb_rm 4 0 0) none (tb_ZM G 0 0 (zQ n 0 (zqv (fun J' => RSy J' J ∧ RelM J' (pSy g) ∧ (J' 164 44 = J 164 44 + 1 → 1 ≤ J' 171 (10 + J 164 44) ∧ J' 171 (10 + J 164 44) ≤ 9)))) (zX n 0 zN)) 0 0 n J 0 [some (.ref 164), none, none, none] []
  have h0 : g 0 4 = 0 := h9
  have hT := hR.2.2 h0
  refine tz_aload_n (pc := 0) dX12_symbol1_0 rfl rfl ?_
  refine tz_aload_n (pc := 1) dX12_symbol1_1 rfl rfl ?_
  refine tz_fI (pc := 2) (kz := 44) (v := (J 164 44)) dX12_symbol1_2 fl_X12_287 i_164_44 rfl rfl (fun r_2 => ?_)
  refine tz_bipush (pc := 5) dX12_symbol1_5 (by decide) ?_
  refine tz_icmp_ge (pc := 7) (tgt := 14) dX12_symbol1_7 (by decide) (by omega) (by decide) (fun h_7 => ?_) (fun h_7 => ?_)
  · refine tz_iconst (pc := 14) dX12_symbol1_14 ?_
    refine tz_iconst (pc := 15) dX12_symbol1_15 ?_
    refine tz_cV (pc := 16) (y_wants hl n _ _ _ (by decide) (by decide) (g) hR (RGw.rf hP).2.1 (by decide)) vl_X12_276 dX12_symbol1_16 o_164 rfl rfl (Nat.le_of_ble_eq_true rfl) ⟨(Nat.le_of_ble_eq_true rfl), (Nat.le_of_ble_eq_true rfl)⟩ rfl rfl (Nat.le_of_ble_eq_true rfl) (Nat.le_of_ble_eq_true rfl) (fun r9 J_16 hq9 => ?_)
    obtain ⟨z_16, rfl, hz_16, w_16, o_16⟩ := hq9
    obtain ⟨rfl, v_16, r_16⟩ : z_16 = 0 ∧ ¬ J_16 164 43 = 0 ∧ RelM J_16 (pF (g) 2) := by rcases o_16 with q | q | q; exact absurd rfl q.2.1; exact ⟨q.2.2.1, q.2.2.2⟩; exact absurd h0 q.1
    have p_16 := (RGw.rf hP).tr w_16
    clear o_16
    refine tz_if_neF (pc := 19) (tgt := 23) (by decide) dX12_symbol1_19 (by decide) (by decide) ?_
    exact tz_vret (pc := 22) dX12_symbol1_22 rfl (Nat.le_of_ble_eq_true rfl) (Nat.le_of_ble_eq_true rfl) ⟨Nat.le_refl _, Nat.le_add_right _ _⟩ ⟨rfl, ⟨RSy.w p_16 h0a, by rw [show pSy g = pF g 2 from by unfold pSy; rw [if_neg (by rw [← hT.2.2.2.1.1]; omega)]]; exact r_16, fun q9 => by have := p_16.1.2 44 rfl (by decide) (by decide); omega⟩⟩
  · refine tz_iconst (pc := 10) dX12_symbol1_10 ?_
    refine tz_goto (pc := 11) (tgt := 15) dX12_symbol1_11 (by decide) ?_
    refine tz_iconst (pc := 15) dX12_symbol1_15 ?_
    refine tz_cV (pc := 16) (y_wants hl n _ _ _ (by decide) (by decide) (g) hR (RGw.rf hP).2.1 (by decide)) vl_X12_276 dX12_symbol1_16 o_164 rfl rfl (Nat.le_of_ble_eq_true rfl) ⟨(Nat.le_of_ble_eq_true rfl), (Nat.le_of_ble_eq_true rfl)⟩ rfl rfl (Nat.le_of_ble_eq_true rfl) (Nat.le_of_ble_eq_true rfl) (fun r9 J_16 hq9 => ?_)
    obtain ⟨z_16, rfl, hz_16, w_16, o_16⟩ := hq9
    obtain ⟨rfl, rfl⟩ : z_16 = 1 ∧ J = J_16 := by rcases o_16 with q | q | q; exact ⟨q.2.2.1, q.2.2.2⟩; exact absurd q.2.1 (by decide); exact absurd h0 q.1
    clear o_16
    refine tz_if_neT (pc := 19) (tgt := 23) (by decide) dX12_symbol1_19 (by decide) (by decide) ?_
    refine tz_aload_n (pc := 23) dX12_symbol1_23 rfl rfl ?_
    refine tz_cV (pc := 24) (y_go hl n _ (g) hR h0 hS) vl_X12_280 dX12_symbol1_24 o_164 rfl rfl (Nat.le_of_ble_eq_true rfl) ⟨(Nat.le_of_ble_eq_true rfl), (Nat.le_of_ble_eq_true rfl)⟩ rfl rfl (Nat.le_of_ble_eq_true rfl) (Nat.le_of_ble_eq_true rfl) (fun r9 J_24 hq9 => ?_)
    obtain ⟨rfl, r_24, w_24, u_24⟩ := hq9
    have p_24 := (RGw.rf hP).tr w_24
    have s_24 := SI.n hS
    have f_24 : (pN (g)) 0 4 = 0 := h0
    have hP_24 := p_24.2.1
    have t_24 := r_24.2.2 f_24
    clear u_24
    refine tz_aload_n (pc := 27) dX12_symbol1_27 rfl rfl ?_
    refine tz_aload_n (pc := 28) dX12_symbol1_28 rfl rfl ?_
    refine tz_fI (pc := 29) (kz := 38) (v := (J_24 164 38)) dX12_symbol1_29 fl_X12_261 i_164_38 rfl rfl (fun r_29 => ?_)
    refine tz_iconst (pc := 32) dX12_symbol1_32 ?_
    refine tz_icmp_ne (pc := 33) (tgt := 40) dX12_symbol1_33 (by decide) (by omega) (by decide) (fun h_33 => ?_) (fun h_33 => ?_)
    · refine tz_iconst (pc := 40) dX12_symbol1_40 ?_
      refine tz_iconst (pc := 41) dX12_symbol1_41 ?_
      refine tz_cV (pc := 42) (y_wants hl n _ _ _ (by decide) (by decide) (pN (g)) r_24 (p_24).2.1 (by decide)) vl_X12_276 dX12_symbol1_42 o_164 rfl rfl (Nat.le_of_ble_eq_true rfl) ⟨(Nat.le_of_ble_eq_true rfl), (Nat.le_of_ble_eq_true rfl)⟩ rfl rfl (Nat.le_of_ble_eq_true rfl) (Nat.le_of_ble_eq_true rfl) (fun r9 J_42 hq9 => ?_)
      obtain ⟨z_42, rfl, hz_42, w_42, o_42⟩ := hq9
      obtain ⟨rfl, v_42, r_42⟩ : z_42 = 0 ∧ ¬ J_42 164 43 = 0 ∧ RelM J_42 (pF (pN (g)) 1) := by rcases o_42 with q | q | q; exact absurd rfl q.2.1; exact ⟨q.2.2.1, q.2.2.2⟩; exact absurd f_24 q.1
      have p_42 := (p_24).tr w_42
      clear o_42
      refine tz_if_eqT (pc := 45) (tgt := 98) (by decide) dX12_symbol1_45 (by decide) (by decide) ?_
      exact tz_vret (pc := 98) dX12_symbol1_98 rfl (Nat.le_of_ble_eq_true rfl) (Nat.le_of_ble_eq_true rfl) ⟨Nat.le_refl _, Nat.le_add_right _ _⟩ ⟨rfl, (by have lt9 : g 164 44 < 10 := (by rw [← hT.2.2.2.1.1]; omega); have e1 : pS1 g = (pF (pN g) 1, 0) := (by unfold pS1 pNm; rw [if_neg (by have := t_24.1.so; omega)]); have e2 : pSy g = pF (pN g) 1 := (by rw [pSy_f lt9 (by rw [e1]; show ¬ (1 : Int) = 0; decide), e1]); exact ⟨RSy.w p_42 h0a, by rw [e2]; exact r_42, fun q9 => by have := p_42.1.2 44 rfl (by decide) (by decide); omega⟩)⟩
    · refine tz_iconst (pc := 36) dX12_symbol1_36 ?_
      refine tz_goto (pc := 37) (tgt := 41) dX12_symbol1_37 (by decide) ?_
      refine tz_iconst (pc := 41) dX12_symbol1_41 ?_
      refine tz_cV (pc := 42) (y_wants hl n _ _ _ (by decide) (by decide) (pN (g)) r_24 (p_24).2.1 (by decide)) vl_X12_276 dX12_symbol1_42 o_164 rfl rfl (Nat.le_of_ble_eq_true rfl) ⟨(Nat.le_of_ble_eq_true rfl), (Nat.le_of_ble_eq_true rfl)⟩ rfl rfl (Nat.le_of_ble_eq_true rfl) (Nat.le_of_ble_eq_true rfl) (fun r9 J_42 hq9 => ?_)
      obtain ⟨z_42, rfl, hz_42, w_42, o_42⟩ := hq9
      obtain ⟨rfl, rfl⟩ : z_42 = 1 ∧ J_24 = J_42 := by rcases o_42 with q | q | q; exact ⟨q.2.2.1, q.2.2.2⟩; exact absurd q.2.1 (by decide); exact absurd f_24 q.1
      clear o_42
      refine tz_if_eqF (pc := 45) (tgt := 98) (by decide) dX12_symbol1_45 (by decide) (by decide) ?_
      refine tz_aload_n (pc := 48) dX12_symbol1_48 rfl rfl ?_
      refine tz_aload_n (pc := 49) dX12_symbol1_49 rfl rfl ?_
      refine tz_fI (pc := 50) (kz := 41) (v := (J_24 164 41)) dX12_symbol1_50 fl_X12_252 i_164_41 rfl rfl (fun r_50 => ?_)
      refine tz_iconst (pc := 53) dX12_symbol1_53 ?_
      refine tz_icmp_ne (pc := 54) (tgt := 61) dX12_symbol1_54 (by decide) (by omega) (by decide) (fun h_54 => ?_) (fun h_54 => ?_)
      · refine tz_iconst (pc := 61) dX12_symbol1_61 ?_
        refine tz_iconst (pc := 62) dX12_symbol1_62 ?_
        refine tz_cV (pc := 63) (y_wants hl n _ _ _ (by decide) (by decide) (pN (g)) r_24 (p_24).2.1 (by decide)) vl_X12_276 dX12_symbol1_63 o_164 rfl rfl (Nat.le_of_ble_eq_true rfl) ⟨(Nat.le_of_ble_eq_true rfl), (Nat.le_of_ble_eq_true rfl)⟩ rfl rfl (Nat.le_of_ble_eq_true rfl) (Nat.le_of_ble_eq_true rfl) (fun r9 J_63 hq9 => ?_)
        obtain ⟨z_63, rfl, hz_63, w_63, o_63⟩ := hq9
        obtain ⟨rfl, v_63, r_63⟩ : z_63 = 0 ∧ ¬ J_63 164 43 = 0 ∧ RelM J_63 (pF (pN (g)) 2) := by rcases o_63 with q | q | q; exact absurd rfl q.2.1; exact ⟨q.2.2.1, q.2.2.2⟩; exact absurd f_24 q.1
        have p_63 := (p_24).tr w_63
        clear o_63
        refine tz_if_eqT (pc := 66) (tgt := 98) (by decide) dX12_symbol1_66 (by decide) (by decide) ?_
        exact tz_vret (pc := 98) dX12_symbol1_98 rfl (Nat.le_of_ble_eq_true rfl) (Nat.le_of_ble_eq_true rfl) ⟨Nat.le_refl _, Nat.le_add_right _ _⟩ ⟨rfl, (by have lt9 : g 164 44 < 10 := (by rw [← hT.2.2.2.1.1]; omega); have e1 : pS1 g = (pF (pN g) 2, 0) := (by unfold pS1 pNm; rw [if_pos (by have := t_24.1.so; omega), if_neg (by have := t_24.1.so; omega)]); have e2 : pSy g = pF (pN g) 2 := (by rw [pSy_f lt9 (by rw [e1]; show ¬ (2 : Int) = 0; decide), e1]); exact ⟨RSy.w p_63 h0a, by rw [e2]; exact r_63, fun q9 => by have := p_63.1.2 44 rfl (by decide) (by decide); omega⟩)⟩
      · refine tz_iconst (pc := 57) dX12_symbol1_57 ?_
        refine tz_goto (pc := 58) (tgt := 62) dX12_symbol1_58 (by decide) ?_
        refine tz_iconst (pc := 62) dX12_symbol1_62 ?_
        refine tz_cV (pc := 63) (y_wants hl n _ _ _ (by decide) (by decide) (pN (g)) r_24 (p_24).2.1 (by decide)) vl_X12_276 dX12_symbol1_63 o_164 rfl rfl (Nat.le_of_ble_eq_true rfl) ⟨(Nat.le_of_ble_eq_true rfl), (Nat.le_of_ble_eq_true rfl)⟩ rfl rfl (Nat.le_of_ble_eq_true rfl) (Nat.le_of_ble_eq_true rfl) (fun r9 J_63 hq9 => ?_)
        obtain ⟨z_63, rfl, hz_63, w_63, o_63⟩ := hq9
        obtain ⟨rfl, rfl⟩ : z_63 = 1 ∧ J_24 = J_63 := by rcases o_63 with q | q | q; exact ⟨q.2.2.1, q.2.2.2⟩; exact absurd q.2.1 (by decide); exact absurd f_24 q.1
        clear o_63
        refine tz_if_eqF (pc := 66) (tgt := 98) (by decide) dX12_symbol1_66 (by decide) (by decide) ?_
        refine tz_aload_n (pc := 69) dX12_symbol1_69 rfl rfl ?_
        refine tz_aload_n (pc := 70) dX12_symbol1_70 rfl rfl ?_
        refine tz_aload_n (pc := 71) dX12_symbol1_71 rfl rfl ?_
        refine tz_aload_n (pc := 72) dX12_symbol1_72 rfl rfl ?_
        refine tz_fI (pc := 73) (kz := 36) (v := (J_24 164 36)) dX12_symbol1_73 fl_X12_246 i_164_36 rfl rfl (fun r_73 => ?_)
        have hp9 := hP_24.2.1
        refine tz_cV (pc := 76) (m_byteAt hl n _ _ (by omega) (by omega) hP_24.1.1.2) vl_X12_240 dX12_symbol1_76 o_164 rfl rfl (Nat.le_of_ble_eq_true rfl) ⟨(Nat.le_of_ble_eq_true rfl), (Nat.le_of_ble_eq_true rfl)⟩ rfl rfl (Nat.le_of_ble_eq_true rfl) (Nat.le_of_ble_eq_true rfl) (fun r9 J_76 hq9 => ?_)
        obtain ⟨z_76, rfl, hz_76, rfl, -, hc_76⟩ := hq9
        have e44 : J_24 164 44 = J 164 44 := (p_24).1.2 44 rfl (by decide) (by decide)
        have hq9 : J_24 164 36 < J_24 164 37 := by rw [t_24.1.1, t_24.2.1]; have := s_24.2.2; have := t_24.1.so; omega
        have hb9 := hc_76 hq9
        rw [t_24.1.1, t_24.2.2.1] at hb9
        refine tz_cV (pc := 79) (x_symOf hl n _ _ (by omega) (by rw [e44]; omega)) vl_X12_293 dX12_symbol1_79 o_164 rfl rfl (Nat.le_of_ble_eq_true rfl) ⟨(Nat.le_of_ble_eq_true rfl), (Nat.le_of_ble_eq_true rfl)⟩ rfl rfl (Nat.le_of_ble_eq_true rfl) (Nat.le_of_ble_eq_true rfl) (fun r9 J_79 hq9 => ?_)
        obtain ⟨z_79, rfl, hz_79, rfl, hs9⟩ := hq9
        have hps : fnB (fun k => decide (¬ J_24 169 (10 + k) = z_76)) (J_24 164 44) 0 = psy (pN (g)) ((pN (g)) 1 ((pN (g)) 0 1)) := by rw [← hb9]; unfold psy; rw [t_24.2.2.2.1.1]; exact fnB_cg (fun j a b => by rw [(t_24.2.2.2.2.2.2.2 (10 + j) (by omega) (by rw [← t_24.2.2.2.1.1, e44] at b; omega)).1])
        rw [hps] at hs9
        rw [t_24.2.2.2.1.1] at hs9
        refine tz_iconst (pc := 82) dX12_symbol1_82 ?_
        refine tz_icmp_ne (pc := 83) (tgt := 90) dX12_symbol1_83 (by decide) (by omega) (by decide) (fun h_83 => ?_) (fun h_83 => ?_)
        · refine tz_iconst (pc := 90) dX12_symbol1_90 ?_
          refine tz_iconst (pc := 91) dX12_symbol1_91 ?_
          refine tz_cV (pc := 92) (y_wants hl n _ _ _ (by decide) (by decide) (pN (g)) r_24 (p_24).2.1 (by decide)) vl_X12_276 dX12_symbol1_92 o_164 rfl rfl (Nat.le_of_ble_eq_true rfl) ⟨(Nat.le_of_ble_eq_true rfl), (Nat.le_of_ble_eq_true rfl)⟩ rfl rfl (Nat.le_of_ble_eq_true rfl) (Nat.le_of_ble_eq_true rfl) (fun r9 J_92 hq9 => ?_)
          obtain ⟨z_92, rfl, hz_92, w_92, o_92⟩ := hq9
          obtain ⟨rfl, v_92, r_92⟩ : z_92 = 0 ∧ ¬ J_92 164 43 = 0 ∧ RelM J_92 (pF (pN (g)) 4) := by rcases o_92 with q | q | q; exact absurd rfl q.2.1; exact ⟨q.2.2.1, q.2.2.2⟩; exact absurd f_24 q.1
          have p_92 := (p_24).tr w_92
          clear o_92
          refine tz_if_neF (pc := 95) (tgt := 99) (by decide) dX12_symbol1_95 (by decide) (by decide) ?_
          exact tz_vret (pc := 98) dX12_symbol1_98 rfl (Nat.le_of_ble_eq_true rfl) (Nat.le_of_ble_eq_true rfl) ⟨Nat.le_refl _, Nat.le_add_right _ _⟩ ⟨rfl, (by have lt9 : g 164 44 < 10 := (by rw [← hT.2.2.2.1.1]; omega); have e1 : pS1 g = (pF (pN g) 4, 0) := (by unfold pS1 pNm; rw [if_pos (by have := t_24.1.so; omega), if_pos (by have := t_24.1.so; omega), if_pos (by omega)]); have e2 : pSy g = pF (pN g) 4 := (by rw [pSy_f lt9 (by rw [e1]; show ¬ (4 : Int) = 0; decide), e1]); exact ⟨RSy.w p_92 h0a, by rw [e2]; exact r_92, fun q9 => by have := p_92.1.2 44 rfl (by decide) (by decide); omega⟩)⟩
        · refine tz_iconst (pc := 86) dX12_symbol1_86 ?_
          refine tz_goto (pc := 87) (tgt := 91) dX12_symbol1_87 (by decide) ?_
          refine tz_iconst (pc := 91) dX12_symbol1_91 ?_
          refine tz_cV (pc := 92) (y_wants hl n _ _ _ (by decide) (by decide) (pN (g)) r_24 (p_24).2.1 (by decide)) vl_X12_276 dX12_symbol1_92 o_164 rfl rfl (Nat.le_of_ble_eq_true rfl) ⟨(Nat.le_of_ble_eq_true rfl), (Nat.le_of_ble_eq_true rfl)⟩ rfl rfl (Nat.le_of_ble_eq_true rfl) (Nat.le_of_ble_eq_true rfl) (fun r9 J_92 hq9 => ?_)
          obtain ⟨z_92, rfl, hz_92, w_92, o_92⟩ := hq9
          obtain ⟨rfl, rfl⟩ : z_92 = 1 ∧ J_24 = J_92 := by rcases o_92 with q | q | q; exact ⟨q.2.2.1, q.2.2.2⟩; exact absurd q.2.1 (by decide); exact absurd f_24 q.1
          clear o_92
          refine tz_if_neT (pc := 95) (tgt := 99) (by decide) dX12_symbol1_95 (by decide) (by decide) ?_
          refine tz_aload_n (pc := 99) dX12_symbol1_99 rfl rfl ?_
          refine tz_aload_n (pc := 100) dX12_symbol1_100 rfl rfl ?_
          refine tz_fI (pc := 101) (kz := 36) (v := (J_24 164 36)) dX12_symbol1_101 fl_X12_246 i_164_36 rfl rfl (fun r_101 => ?_)
          have hp9 := hP_24.2.1
          refine tz_cV (pc := 104) (m_byteAt hl n _ _ (by omega) (by omega) hP_24.1.1.2) vl_X12_240 dX12_symbol1_104 o_164 rfl rfl (Nat.le_of_ble_eq_true rfl) ⟨(Nat.le_of_ble_eq_true rfl), (Nat.le_of_ble_eq_true rfl)⟩ rfl rfl (Nat.le_of_ble_eq_true rfl) (Nat.le_of_ble_eq_true rfl) (fun r9 J_104 hq9 => ?_)
          obtain ⟨z_104, rfl, hz_104, rfl, -, hc_104⟩ := hq9
          have hb104 : (pN g) 1 ((pN g) 0 1) = z_104 := by have q8 := hc_104 hq9; rw [t_24.1.1, t_24.2.2.1] at q8; exact q8
          refine tz_istore_n (pc := 107) (L2 := [_, _, _, _]) dX12_symbol1_107 rfl (by decide) rfl ?_
          refine tz_aload_n (pc := 108) dX12_symbol1_108 rfl rfl ?_
          refine tz_cV (pc := 109) (y_go hl n _ (pN (g)) r_24 f_24 s_24) vl_X12_280 dX12_symbol1_109 o_164 rfl rfl (Nat.le_of_ble_eq_true rfl) ⟨(Nat.le_of_ble_eq_true rfl), (Nat.le_of_ble_eq_true rfl)⟩ rfl rfl (Nat.le_of_ble_eq_true rfl) (Nat.le_of_ble_eq_true rfl) (fun r9 J_109 hq9 => ?_)
          obtain ⟨rfl, r_109, w_109, u_109⟩ := hq9
          have p_109 := (p_24).tr w_109
          have s_109 := SI.n s_24
          have f_109 : (pN (pN (g))) 0 4 = 0 := f_24
          have hP_109 := p_109.2.1
          have t_109 := r_109.2.2 f_109
          clear u_109
          refine tz_aload_n (pc := 112) dX12_symbol1_112 rfl rfl ?_
          refine tz_iconst (pc := 113) dX12_symbol1_113 ?_
          refine tz_iconst (pc := 114) dX12_symbol1_114 ?_
          refine tz_cV (pc := 115) (y_number hl n _ _ _ (by decide) (by decide) (pN (pN (g))) r_109 s_109 (p_109).2.1 (by decide)) vl_X12_290 dX12_symbol1_115 o_164 rfl rfl (Nat.le_of_ble_eq_true rfl) ⟨(Nat.le_of_ble_eq_true rfl), (Nat.le_of_ble_eq_true rfl)⟩ rfl rfl (Nat.le_of_ble_eq_true rfl) (Nat.le_of_ble_eq_true rfl) (fun r9 J_115 hq9 => ?_)
          obtain ⟨z_115, rfl, hz_115, w_115, b_115, r_115, e_115⟩ := hq9
          have p_115 := (p_109).tr w_115
          have s_115 := SI.u (a := 0) (b := 3) s_109
          refine tz_istore_n (pc := 118) (L2 := [_, _, _, _]) dX12_symbol1_118 rfl (by decide) rfl ?_
          refine tz_aload_n (pc := 119) dX12_symbol1_119 rfl rfl ?_
          refine tz_iconst (pc := 120) dX12_symbol1_120 ?_
          refine tz_bipush (pc := 121) dX12_symbol1_121 (by decide) ?_
          refine tz_cV (pc := 123) (y_number hl n _ _ _ (by decide) (by decide) ((pU (pN (pN (g))) 0 3).1) r_115 s_115 (p_115).2.1 (by decide)) vl_X12_290 dX12_symbol1_123 o_164 rfl rfl (Nat.le_of_ble_eq_true rfl) ⟨(Nat.le_of_ble_eq_true rfl), (Nat.le_of_ble_eq_true rfl)⟩ rfl rfl (Nat.le_of_ble_eq_true rfl) (Nat.le_of_ble_eq_true rfl) (fun r9 J_123 hq9 => ?_)
          obtain ⟨z_123, rfl, hz_123, w_123, b_123, r_123, e_123⟩ := hq9
          have p_123 := (p_115).tr w_123
          have s_123 := SI.u (a := 1) (b := 9) s_115
          refine tz_istore_n (pc := 126) (L2 := [_, _, _, _]) dX12_symbol1_126 rfl (by decide) rfl ?_
          refine tz_aload_n (pc := 127) dX12_symbol1_127 rfl rfl ?_
          refine tz_fR (pc := 128) dX12_symbol1_128 fl_X12_22 r_164_4 ?_
          refine tz_bipush (pc := 131) dX12_symbol1_131 (by decide) ?_
          refine tz_aload_n (pc := 133) dX12_symbol1_133 rfl rfl ?_
          refine tz_fI (pc := 134) (kz := 44) (v := (J 164 44)) dX12_symbol1_134 fl_X12_287 i_164_44 rfl (Eq.trans (w_123.1.2 44 rfl (by decide) (by decide)) (Eq.trans (w_115.1.2 44 rfl (by decide) (by decide)) (Eq.trans (w_109.1.2 44 rfl (by decide) (by decide)) (Eq.trans (w_24.1.2 44 rfl (by decide) (by decide)) rfl)))) (fun r_134 => ?_)
          refine tz_iadd (pc := 137) (v := 10 + (J 164 44)) dX12_symbol1_137 rfl ?_
          refine tz_iload_n (pc := 138) dX12_symbol1_138 rfl rfl ?_
          refine tz_aS (pc := 139) (z := (10 + (J 164 44))) dX12_symbol1_139 a_169 rfl (by omega) (by omega) ?_
          refine tz_aload_n (pc := 140) dX12_symbol1_140 rfl rfl ?_
          refine tz_fR (pc := 141) dX12_symbol1_141 fl_X12_25 r_164_5 ?_
          refine tz_bipush (pc := 144) dX12_symbol1_144 (by decide) ?_
          refine tz_aload_n (pc := 146) dX12_symbol1_146 rfl rfl ?_
          refine tz_fI (pc := 147) (kz := 44) (v := (J 164 44)) dX12_symbol1_147 fl_X12_287 i_164_44 rfl (Eq.trans (w_123.1.2 44 rfl (by decide) (by decide)) (Eq.trans (w_115.1.2 44 rfl (by decide) (by decide)) (Eq.trans (w_109.1.2 44 rfl (by decide) (by decide)) (Eq.trans (w_24.1.2 44 rfl (by decide) (by decide)) rfl)))) (fun r_147 => ?_)
          refine tz_iadd (pc := 150) (v := 10 + (J 164 44)) dX12_symbol1_150 rfl ?_
          refine tz_iload_n (pc := 151) dX12_symbol1_151 rfl rfl ?_
          refine tz_aS (pc := 152) (z := (10 + (J 164 44))) dX12_symbol1_152 a_170 rfl (by omega) (by omega) ?_
          refine tz_aload_n (pc := 153) dX12_symbol1_153 rfl rfl ?_
          refine tz_fR (pc := 154) dX12_symbol1_154 fl_X12_28 r_164_6 ?_
          refine tz_bipush (pc := 157) dX12_symbol1_157 (by decide) ?_
          refine tz_aload_n (pc := 159) dX12_symbol1_159 rfl rfl ?_
          refine tz_fI (pc := 160) (kz := 44) (v := (J 164 44)) dX12_symbol1_160 fl_X12_287 i_164_44 rfl (Eq.trans (w_123.1.2 44 rfl (by decide) (by decide)) (Eq.trans (w_115.1.2 44 rfl (by decide) (by decide)) (Eq.trans (w_109.1.2 44 rfl (by decide) (by decide)) (Eq.trans (w_24.1.2 44 rfl (by decide) (by decide)) rfl)))) (fun r_160 => ?_)
          refine tz_iadd (pc := 163) (v := 10 + (J 164 44)) dX12_symbol1_163 rfl ?_
          refine tz_iload_n (pc := 164) dX12_symbol1_164 rfl rfl ?_
          refine tz_aS (pc := 165) (z := (10 + (J 164 44))) dX12_symbol1_165 a_171 rfl (by omega) (by omega) ?_
          refine tz_aload_n (pc := 166) dX12_symbol1_166 rfl rfl ?_
          refine tz_dup (pc := 167) dX12_symbol1_167 rfl ?_
          refine tz_fI (pc := 168) (kz := 44) (v := (J 164 44)) dX12_symbol1_168 fl_X12_287 i_164_44 rfl (Eq.trans (w_123.1.2 44 rfl (by decide) (by decide)) (Eq.trans (w_115.1.2 44 rfl (by decide) (by decide)) (Eq.trans (w_109.1.2 44 rfl (by decide) (by decide)) (Eq.trans (w_24.1.2 44 rfl (by decide) (by decide)) rfl)))) (fun r_168 => ?_)
          refine tz_iconst (pc := 171) dX12_symbol1_171 ?_
          refine tz_iadd (pc := 172) (v := (J 164 44) + 1) dX12_symbol1_172 rfl ?_
          refine tz_pI (pc := 173) (kz := 44) dX12_symbol1_173 fl_X12_287 i_164_44 rfl rfl (by omega) ?_
          exact tz_vret (pc := 176) dX12_symbol1_176 rfl (Nat.le_of_ble_eq_true rfl) (Nat.le_of_ble_eq_true rfl) ⟨Nat.le_refl _, Nat.le_add_right _ _⟩ ⟨rfl, (by have lt9 : g 164 44 < 10 := (by rw [← hT.2.2.2.1.1]; omega); have e1 : pS1 g = (pN (pN g), (pN g) 1 ((pN g) 0 1)) := (by unfold pS1 pNm; rw [if_pos (by have := t_24.1.so; omega), if_pos (by have := t_24.1.so; omega), if_neg (by omega)]); have e2 : pS2 g = pU (pN (pN g)) 0 3 := (by unfold pS2; rw [e1]); have e3 : pS3 g = pU (pU (pN (pN g)) 0 3).1 1 9 := (by unfold pS3; rw [e2]); have e44 : J_123 164 44 = J 164 44 := p_123.1.2 44 rfl (by decide) (by decide); refine ⟨RSy.n p_123 (by omega) (by omega), ?_, fun _ => by show 1 ≤ (if 10 + J 164 44 = 10 + J 164 44 then z_123 else J_123 171 (10 + J 164 44)) ∧ (if 10 + J 164 44 = 10 + J 164 44 then z_123 else J_123 171 (10 + J 164 44)) ≤ 9; rw [if_pos rfl]; omega⟩; by_cases hc : (pS3 g).1 0 4 = 0; (rw [e3] at hc; have h2 := pU_0 hc; have v2 := e_115 h2; have v3 := e_123 hc; have k9 := RelM.sym (c := z_104) (n := z_115) (w := z_123) r_123 hc; rw [e44] at k9; have e5 : pSy g = pSm (pU (pU (pN (pN g)) 0 3).1 1 9).1 z_104 z_115 z_123 := (by unfold pSy; rw [if_pos lt9, e3, if_pos hc, e1, e2, v2, v3, ← hb104]); rw [e5]; exact k9); (have e5 : pSy g = (pS3 g).1 := (by unfold pSy; rw [if_pos lt9, if_neg hc]); rw [e5]; rw [e3] at hc ⊢; exact RelM.far r_123 hc rfl rfl rfl rfl))⟩

