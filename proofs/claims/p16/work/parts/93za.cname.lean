/-! ===== the class follows the reading: names, variables ===== -/
theorem ET.sy {J g : zJ} {t z : Int} (E : ET J g) (h1 : 0 ≤ J 1 3) (d : (0 ≤ z ∧ z < J 1 3 ∧ J 2 z = t ∧ ∀ i, 0 ≤ i → i < z → ¬ J 2 i = t) ∨ (z = -1 ∧ ∀ i, 0 ≤ i → i < J 1 3 → ¬ J 2 i = t)) : (0 ≤ z ∧ z < g 164 44 ∧ psy g t = z) ∨ (z = -1 ∧ psy g t = g 164 44) := by
  obtain ⟨⟨e3, e2⟩, _⟩ := E
  rcases d with ⟨a, b, c, d⟩ | ⟨a, d⟩
  · refine Or.inl ⟨a, by omega, fnB_eq a (by omega) (fun q u v => decide_eq_true ?_) (Or.inr (decide_eq_false (fun k => k ?_)))⟩
    · rw [← (e2 q u (by omega)).1]; exact d q u v
    · rw [← (e2 z a (by omega)).1]; exact c
  · refine Or.inr ⟨a, fnB_eq (by omega) (Int.le_refl _) (fun q u v => decide_eq_true ?_) (Or.inl rfl)⟩
    rw [← (e2 q u (by omega)).1]; exact d q u (by omega)
theorem pNm_1 {J g : zJ} (h : XC J g) (q : g 0 4 = 0) (h0 : J 163 8 = 0) (hk : ¬ J 163 5 = 2) : pNm g = (pFx g 1, 0) := by
  unfold pNm pFx
  rcases h.k h0 with p | ⟨_, e3, e2, e1, e, _⟩
  · omega
  · rw [if_pos q, if_neg (by omega)]
theorem pNm_2 {J g : zJ} (h : XC J g) (q : g 0 4 = 0) (h0 : J 163 8 = 0) (hk : J 163 5 = 2) (hn : 1 < J 163 7 - J 163 6) : pNm g = (pFx g 2, 0) := by
  unfold pNm pFx
  rcases h.k h0 with p | ⟨_, e3, e2, e1, e, _⟩
  · omega
  · rw [if_pos q, if_pos (by omega), if_neg (by omega)]
theorem pNm_4 {J g : zJ} {z : Int} (h : XC J g) (hS : SI g) (q : g 0 4 = 0) (h0 : J 163 8 = 0) (hk : J 163 5 = 2) (hn : ¬ 1 < J 163 7 - J 163 6) (h1 : 0 ≤ J 1 3) (d : (0 ≤ z ∧ z < J 1 3 ∧ J 2 z = J 162 (J 163 6) ∧ ∀ i, 0 ≤ i → i < z → ¬ J 2 i = J 162 (J 163 6)) ∨ (z = -1 ∧ ∀ i, 0 ≤ i → i < J 1 3 → ¬ J 2 i = J 162 (J 163 6))) : (z = -1 → pNm g = (pNx g, J 162 (J 163 6))) ∧ (¬ z = -1 → pNm g = (pFx g 4, 0)) := by
  have v := h.w hS h0 (by omega)
  unfold pNm pFx pNx
  rcases h.k h0 with p | ⟨_, e3, e2, e1, e, E⟩
  · omega
  · have s := E.2.2.2.sy h1 d
    rw [if_pos q, if_pos q, if_pos (by omega), if_pos (by omega), e1, e]
    refine ⟨fun k => ?_, fun k => ?_⟩
    · rw [if_neg (by omega)]
    · rw [if_pos (by omega)]
theorem pTo_1 {J g : zJ} (h : XC J g) (h0 : J 163 8 = 0) (hk : J 163 5 = 2 ∧ mtB (J 162) (J 163 6) (J 163 7) [116, 111]) : pTo g = pNx g := by
  unfold pTo pNx
  rcases h.k h0 with p | ⟨q, e3, e2, e1, e, E⟩
  · rw [if_neg (by omega), if_neg (by omega)]
  · rw [if_pos q, if_pos q, cif_pos]
    unfold pIs
    rw [e3, e2, e1, e]
    exact hk
theorem pTo_2 {J g : zJ} (h : XC J g) (h0 : J 163 8 = 0) (hk : ¬ (J 163 5 = 2 ∧ mtB (J 162) (J 163 6) (J 163 7) [116, 111])) : pTo g = pFx g 1 := by
  unfold pTo pFx
  rcases h.k h0 with p | ⟨q, e3, e2, e1, e, E⟩
  · rw [if_neg (by omega), if_neg (by omega)]
  · rw [if_pos q, if_pos q, cif_neg]
    unfold pIs
    rw [e3, e2, e1, e]
    exact hk
theorem pTo_f {g : zJ} (h : ¬ g 0 4 = 0) : pTo g = g := by unfold pTo; rw [if_neg h]
set_option maxHeartbeats 4000000 in
set_option maxRecDepth 100000 in
theorem w_newName {l : Launch} {G : tb_G} (hl : l.stackTraces = false) (n : Nat) (J : zJ)   (g : zJ) (hD : RD2 J) (hX : XC J g) (hS : SI g) (h9 : g 0 4 = 0) (hb : J 163 8 = 0) (h1 : 0 ≤ J 1 3 ∧ J 1 3 ≤ 10) : tz_Ok l G M_X5_readNewName 2 0 0 [.ref 163] n J (zqi (fun z J' => RN J' J ∧ RD2 J' ∧ XC J' (pNm g).1 ∧ VQ z (pNm g))) zN := by
  refine tz_Ok.of hl (by decide +kernel) rfl (tb_c1 rfl) (Nat.le_of_ble_eq_true rfl) ?_
  show tz_At l G M_X5_readNewName (tb_rm 2 0 0) none (tb_ZM G 0 0 (zQ n 0 (zqi (fun z J' => RN J' J ∧ RD2 J' ∧ XC J' (pNm g).1 ∧ VQ z (pNm g)))) (zX n 0 zN)) 0 0 n J 0 [some (.ref 163), none] []
  obtain ⟨⟨⟨hD1, hD2⟩, hD3, hD4⟩, hD5⟩ := id hD
  refine tz_aload_n (pc := 0) dX5_readNewName_0 rfl rfl ?_
  refine tz_fI (pc := 1) (kz := 5) (v := (J 163 5)) dX5_readNewName_1 fl_X5_15 i_163_5 rfl rfl (fun r_1 => ?_)
  refine tz_iconst (pc := 4) dX5_readNewName_4 ?_
  refine tz_icmp_eq (pc := 5) (tgt := 14) dX5_readNewName_5 (by decide) (by omega) (by decide) (fun h_5 => ?_) (fun h_5 => ?_)
  · refine tz_aload_n (pc := 14) dX5_readNewName_14 rfl rfl ?_
    refine tz_fI (pc := 15) (kz := 7) (v := (J 163 7)) dX5_readNewName_15 fl_X5_21 i_163_7 rfl rfl (fun r_15 => ?_)
    refine tz_aload_n (pc := 18) dX5_readNewName_18 rfl rfl ?_
    refine tz_fI (pc := 19) (kz := 6) (v := (J 163 6)) dX5_readNewName_19 fl_X5_18 i_163_6 rfl rfl (fun r_19 => ?_)
    refine tz_isub (pc := 22) (v := (J 163 7) - (J 163 6)) dX5_readNewName_22 rfl ?_
    refine tz_iconst (pc := 23) dX5_readNewName_23 ?_
    refine tz_icmp_le (pc := 24) (tgt := 33) dX5_readNewName_24 (by decide) (by omega) (by decide) (fun h_24 => ?_) (fun h_24 => ?_)
    · refine tz_aload_n (pc := 33) dX5_readNewName_33 rfl rfl ?_
      refine tz_fR (pc := 34) dX5_readNewName_34 fl_X5_34 r_163_0 ?_
      refine tz_aload_n (pc := 37) dX5_readNewName_37 rfl rfl ?_
      refine tz_fI (pc := 38) (kz := 6) (v := (J 163 6)) dX5_readNewName_38 fl_X5_18 i_163_6 rfl rfl (fun r_38 => ?_)
      refine tz_aL (pc := 41) (z := (J 163 6)) (v := (J 162 (J 163 6))) dX5_readNewName_41 a_162 rfl (by omega) rfl (fun r_41 => ?_)
      refine tz_istore_n (pc := 42) (L2 := [_, _]) dX5_readNewName_42 rfl (by decide) rfl ?_
      refine tz_aload_n (pc := 43) dX5_readNewName_43 rfl rfl ?_
      refine tz_fR (pc := 44) dX5_readNewName_44 fl_X5_54 r_163_2 ?_
      refine tz_iload_n (pc := 47) dX5_readNewName_47 rfl rfl ?_
      refine tz_cV (pc := 48) (c_named hl n _ _ (by omega) h1) vl_X5_135 dX5_readNewName_48 o_1 rfl rfl (Nat.le_of_ble_eq_true rfl) ⟨(Nat.le_of_ble_eq_true rfl), (Nat.le_of_ble_eq_true rfl)⟩ rfl rfl (Nat.le_of_ble_eq_true rfl) (Nat.le_of_ble_eq_true rfl) (fun r9 J_48 hq9 => ?_)
      obtain ⟨z_48, rfl, hz_48, rfl, hnm⟩ := hq9
      refine tz_iconst (pc := 51) dX5_readNewName_51 ?_
      refine tz_icmp_eq (pc := 52) (tgt := 61) dX5_readNewName_52 (by decide) (by omega) (by decide) (fun h_52 => ?_) (fun h_52 => ?_)
      · refine tz_aload_n (pc := 61) dX5_readNewName_61 rfl rfl ?_
        refine tz_cV (pc := 62) (w_next hl n _ g hD hX (by omega)) vl_X5_65 dX5_readNewName_62 o_163 rfl rfl (Nat.le_of_ble_eq_true rfl) ⟨(Nat.le_of_ble_eq_true rfl), (Nat.le_of_ble_eq_true rfl)⟩ rfl rfl (Nat.le_of_ble_eq_true rfl) (Nat.le_of_ble_eq_true rfl) (fun r9 J_62 hq9 => ?_)
        obtain ⟨rfl, g9, d9, v9, x9⟩ := hq9
        refine tz_iload_n (pc := 65) dX5_readNewName_65 rfl rfl ?_
        exact tz_iret (pc := 66) (z := (J 162 (J 163 6))) dX5_readNewName_66 rfl (Nat.le_of_ble_eq_true rfl) (Nat.le_of_ble_eq_true rfl) ⟨Nat.le_refl _, Nat.le_add_right _ _⟩ ⟨_, rfl, (by omega), (by first | exact ⟨g9, d9 hD, by rw [pNm_1 hX h9 hb (by omega)]; exact x9, fun q => by rw [pNm_1 hX h9 hb (by omega)] at q; exact absurd q (pFx_n (by decide))⟩ | exact ⟨g9, d9 hD, by rw [pNm_2 hX h9 hb (by omega) (by omega)]; exact x9, fun q => by rw [pNm_2 hX h9 hb (by omega) (by omega)] at q; exact absurd q (pFx_n (by decide))⟩ | exact ⟨g9, d9 hD, by rw [(pNm_4 hX hS h9 hb (by omega) (by omega) h1.1 hnm).2 (by omega)]; exact x9, fun q => by rw [(pNm_4 hX hS h9 hb (by omega) (by omega) h1.1 hnm).2 (by omega)] at q; exact absurd q (pFx_n (by decide))⟩ | exact ⟨g9, d9, by rw [(pNm_4 hX hS h9 hb (by omega) (by omega) h1.1 hnm).1 (by omega)]; exact x9, fun q => by rw [(pNm_4 hX hS h9 hb (by omega) (by omega) h1.1 hnm).1 (by omega)]⟩)⟩
      · refine tz_aload_n (pc := 55) dX5_readNewName_55 rfl rfl ?_
        refine tz_iconst (pc := 56) dX5_readNewName_56 ?_
        refine tz_cV (pc := 57) (w_fail hl n _ _ (by decide) g (by decide) hX) vl_X5_97 dX5_readNewName_57 o_163 rfl rfl (Nat.le_of_ble_eq_true rfl) ⟨(Nat.le_of_ble_eq_true rfl), (Nat.le_of_ble_eq_true rfl)⟩ rfl rfl (Nat.le_of_ble_eq_true rfl) (Nat.le_of_ble_eq_true rfl) (fun r9 J_57 hq9 => ?_)
        obtain ⟨z_57, rfl, hz_57, g9, d9, e9, v9, x9⟩ := hq9
        exact tz_iret (pc := 60) (z := z_57) dX5_readNewName_60 rfl (Nat.le_of_ble_eq_true rfl) (Nat.le_of_ble_eq_true rfl) ⟨Nat.le_refl _, Nat.le_add_right _ _⟩ ⟨_, rfl, (by omega), (by first | exact ⟨g9, d9 hD, by rw [pNm_1 hX h9 hb (by omega)]; exact x9, fun q => by rw [pNm_1 hX h9 hb (by omega)] at q; exact absurd q (pFx_n (by decide))⟩ | exact ⟨g9, d9 hD, by rw [pNm_2 hX h9 hb (by omega) (by omega)]; exact x9, fun q => by rw [pNm_2 hX h9 hb (by omega) (by omega)] at q; exact absurd q (pFx_n (by decide))⟩ | exact ⟨g9, d9 hD, by rw [(pNm_4 hX hS h9 hb (by omega) (by omega) h1.1 hnm).2 (by omega)]; exact x9, fun q => by rw [(pNm_4 hX hS h9 hb (by omega) (by omega) h1.1 hnm).2 (by omega)] at q; exact absurd q (pFx_n (by decide))⟩ | exact ⟨g9, d9, by rw [(pNm_4 hX hS h9 hb (by omega) (by omega) h1.1 hnm).1 (by omega)]; exact x9, fun q => by rw [(pNm_4 hX hS h9 hb (by omega) (by omega) h1.1 hnm).1 (by omega)]⟩)⟩
    · refine tz_aload_n (pc := 27) dX5_readNewName_27 rfl rfl ?_
      refine tz_iconst (pc := 28) dX5_readNewName_28 ?_
      refine tz_cV (pc := 29) (w_fail hl n _ _ (by decide) g (by decide) hX) vl_X5_97 dX5_readNewName_29 o_163 rfl rfl (Nat.le_of_ble_eq_true rfl) ⟨(Nat.le_of_ble_eq_true rfl), (Nat.le_of_ble_eq_true rfl)⟩ rfl rfl (Nat.le_of_ble_eq_true rfl) (Nat.le_of_ble_eq_true rfl) (fun r9 J_29 hq9 => ?_)
      obtain ⟨z_29, rfl, hz_29, g9, d9, e9, v9, x9⟩ := hq9
      exact tz_iret (pc := 32) (z := z_29) dX5_readNewName_32 rfl (Nat.le_of_ble_eq_true rfl) (Nat.le_of_ble_eq_true rfl) ⟨Nat.le_refl _, Nat.le_add_right _ _⟩ ⟨_, rfl, (by omega), (by first | exact ⟨g9, d9 hD, by rw [pNm_1 hX h9 hb (by omega)]; exact x9, fun q => by rw [pNm_1 hX h9 hb (by omega)] at q; exact absurd q (pFx_n (by decide))⟩ | exact ⟨g9, d9 hD, by rw [pNm_2 hX h9 hb (by omega) (by omega)]; exact x9, fun q => by rw [pNm_2 hX h9 hb (by omega) (by omega)] at q; exact absurd q (pFx_n (by decide))⟩ | exact ⟨g9, d9 hD, by rw [(pNm_4 hX hS h9 hb (by omega) (by omega) h1.1 hnm).2 (by omega)]; exact x9, fun q => by rw [(pNm_4 hX hS h9 hb (by omega) (by omega) h1.1 hnm).2 (by omega)] at q; exact absurd q (pFx_n (by decide))⟩ | exact ⟨g9, d9, by rw [(pNm_4 hX hS h9 hb (by omega) (by omega) h1.1 hnm).1 (by omega)]; exact x9, fun q => by rw [(pNm_4 hX hS h9 hb (by omega) (by omega) h1.1 hnm).1 (by omega)]⟩)⟩
  · refine tz_aload_n (pc := 8) dX5_readNewName_8 rfl rfl ?_
    refine tz_iconst (pc := 9) dX5_readNewName_9 ?_
    refine tz_cV (pc := 10) (w_fail hl n _ _ (by decide) g (by decide) hX) vl_X5_97 dX5_readNewName_10 o_163 rfl rfl (Nat.le_of_ble_eq_true rfl) ⟨(Nat.le_of_ble_eq_true rfl), (Nat.le_of_ble_eq_true rfl)⟩ rfl rfl (Nat.le_of_ble_eq_true rfl) (Nat.le_of_ble_eq_true rfl) (fun r9 J_10 hq9 => ?_)
    obtain ⟨z_10, rfl, hz_10, g9, d9, e9, v9, x9⟩ := hq9
    exact tz_iret (pc := 13) (z := z_10) dX5_readNewName_13 rfl (Nat.le_of_ble_eq_true rfl) (Nat.le_of_ble_eq_true rfl) ⟨Nat.le_refl _, Nat.le_add_right _ _⟩ ⟨_, rfl, (by omega), (by first | exact ⟨g9, d9 hD, by rw [pNm_1 hX h9 hb (by omega)]; exact x9, fun q => by rw [pNm_1 hX h9 hb (by omega)] at q; exact absurd q (pFx_n (by decide))⟩ | exact ⟨g9, d9 hD, by rw [pNm_2 hX h9 hb (by omega) (by omega)]; exact x9, fun q => by rw [pNm_2 hX h9 hb (by omega) (by omega)] at q; exact absurd q (pFx_n (by decide))⟩ | exact ⟨g9, d9 hD, by rw [(pNm_4 hX hS h9 hb (by omega) (by omega) h1.1 hnm).2 (by omega)]; exact x9, fun q => by rw [(pNm_4 hX hS h9 hb (by omega) (by omega) h1.1 hnm).2 (by omega)] at q; exact absurd q (pFx_n (by decide))⟩ | exact ⟨g9, d9, by rw [(pNm_4 hX hS h9 hb (by omega) (by omega) h1.1 hnm).1 (by omega)]; exact x9, fun q => by rw [(pNm_4 hX hS h9 hb (by omega) (by omega) h1.1 hnm).1 (by omega)]⟩)⟩

set_option maxHeartbeats 4000000 in
set_option maxRecDepth 100000 in
theorem w_passTo {l : Launch} {G : tb_G} (hl : l.stackTraces = false) (n : Nat) (J : zJ)   (g : zJ) (hnb : n ≤ tb_sc) (hD : RD2 J) (hX : XC J g) (hS : SI g) : tz_Ok l G M_X5_passTo 5 0 0 [.ref 163] n J (zqv (fun J' => RN J' J ∧ RD2 J' ∧ XC J' (pTo g))) zN := by
  refine tz_Ok.of hl (by decide +kernel) rfl (tb_c1 rfl) (Nat.le_of_ble_eq_true rfl) ?_
  show tz_At l G M_X5_passTo (tb_rm 5 0 0) none (tb_ZM G 0 0 (zQ n 0 (zqv (fun J' => RN J' J ∧ RD2 J' ∧ XC J' (pTo g)))) (zX n 0 zN)) 0 0 n J 0 [some (.ref 163)] []
  refine tz_aload_n (pc := 0) dX5_passTo_0 rfl rfl ?_
  refine tz_fI (pc := 1) (kz := 8) (v := (J 163 8)) dX5_passTo_1 fl_X5_24 i_163_8 rfl rfl (fun r_1 => ?_)
  refine tz_if_eq (pc := 4) (tgt := 8) dX5_passTo_4 (by decide) (by omega) (fun h_4 => ?_) (fun h_4 => ?_)
  · refine tz_aload_n (pc := 8) dX5_passTo_8 rfl rfl ?_
    refine tz_word (pc := 9) (ik := 160) (tx := "to") (bs := [116, 111]) (by decide) rfl (x_isWord hl n _ [116, 111] (by decide) hnb hD.1) hnb vl_X5_70 rfl dX5_passTo_9 dX5_passTo_11 (Nat.le_of_ble_eq_true rfl) ⟨(Nat.le_of_ble_eq_true rfl), (Nat.le_of_ble_eq_true rfl)⟩ (Nat.le_of_ble_eq_true rfl) (Nat.le_of_ble_eq_true rfl) (fun z_9 J9 hz_9 hq9 => ?_)
    obtain ⟨rfl, hv_9⟩ := hq9
    have hw_9 := hv_9.imp (fun q => (⟨q.1, q.2.1, isw_to.1 q.2.2⟩ : _ ∧ _ ∧ _)) (fun q => (⟨q.1, fun r => q.2 ⟨r.1, isw_to.2 r.2⟩⟩ : _ ∧ ¬ (_ ∧ _)))
    have hc_9 : z_9 = 0 ∨ z_9 = 1 := hv_9.elim (fun q => Or.inr q.1) (fun q => Or.inl q.1)
    clear hv_9
    refine tz_if_ne (pc := 14) (tgt := 24) dX5_passTo_14 (by decide) (by omega) (fun h_14 => ?_) (fun h_14 => ?_)
    · refine tz_aload_n (pc := 24) dX5_passTo_24 rfl rfl ?_
      refine tz_cV (pc := 25) (w_next hl n _ g hD hX (by omega)) vl_X5_65 dX5_passTo_25 o_163 rfl rfl (Nat.le_of_ble_eq_true rfl) ⟨(Nat.le_of_ble_eq_true rfl), (Nat.le_of_ble_eq_true rfl)⟩ rfl rfl (Nat.le_of_ble_eq_true rfl) (Nat.le_of_ble_eq_true rfl) (fun r9 J_25 hq9 => ?_)
      obtain ⟨rfl, g9, d9, v9, x9⟩ := hq9
      exact tz_vret (pc := 28) dX5_passTo_28 rfl (Nat.le_of_ble_eq_true rfl) (Nat.le_of_ble_eq_true rfl) ⟨Nat.le_refl _, Nat.le_add_right _ _⟩ ⟨rfl, (by first | exact ⟨RN.rf, hD, by rw [pTo_f (hX.no (by omega))]; exact hX⟩ | exact ⟨g9, d9 hD, by rw [pTo_2 hX (by omega) (hw_9.elim (fun q => absurd q.1 (by omega)) (fun q => q.2))]; exact x9⟩ | exact ⟨g9, d9, by rw [pTo_1 hX (by omega) (hw_9.elim (fun q => q.2) (fun q => absurd q.1 (by omega)))]; exact x9⟩)⟩
    · refine tz_aload_n (pc := 17) dX5_passTo_17 rfl rfl ?_
      refine tz_iconst (pc := 18) dX5_passTo_18 ?_
      refine tz_cV (pc := 19) (w_fail hl n _ _ (by decide) g (by decide) hX) vl_X5_97 dX5_passTo_19 o_163 rfl rfl (Nat.le_of_ble_eq_true rfl) ⟨(Nat.le_of_ble_eq_true rfl), (Nat.le_of_ble_eq_true rfl)⟩ rfl rfl (Nat.le_of_ble_eq_true rfl) (Nat.le_of_ble_eq_true rfl) (fun r9 J_19 hq9 => ?_)
      obtain ⟨z_19, rfl, hz_19, g9, d9, e9, v9, x9⟩ := hq9
      refine tz_pop (pc := 22) dX5_passTo_22 rfl ?_
      exact tz_vret (pc := 23) dX5_passTo_23 rfl (Nat.le_of_ble_eq_true rfl) (Nat.le_of_ble_eq_true rfl) ⟨Nat.le_refl _, Nat.le_add_right _ _⟩ ⟨rfl, (by first | exact ⟨RN.rf, hD, by rw [pTo_f (hX.no (by omega))]; exact hX⟩ | exact ⟨g9, d9 hD, by rw [pTo_2 hX (by omega) (hw_9.elim (fun q => absurd q.1 (by omega)) (fun q => q.2))]; exact x9⟩ | exact ⟨g9, d9, by rw [pTo_1 hX (by omega) (hw_9.elim (fun q => q.2) (fun q => absurd q.1 (by omega)))]; exact x9⟩)⟩
  · exact tz_vret (pc := 7) dX5_passTo_7 rfl (Nat.le_of_ble_eq_true rfl) (Nat.le_of_ble_eq_true rfl) ⟨Nat.le_refl _, Nat.le_add_right _ _⟩ ⟨rfl, (by first | exact ⟨RN.rf, hD, by rw [pTo_f (hX.no (by omega))]; exact hX⟩ | exact ⟨g9, d9 hD, by rw [pTo_2 hX (by omega) (hw_9.elim (fun q => absurd q.1 (by omega)) (fun q => q.2))]; exact x9⟩ | exact ⟨g9, d9, by rw [pTo_1 hX (by omega) (hw_9.elim (fun q => q.2) (fun q => absurd q.1 (by omega)))]; exact x9⟩)⟩

set_option maxHeartbeats 4000000 in
set_option maxRecDepth 100000 in
theorem w_held {l : Launch} {G : tb_G} (hl : l.stackTraces = false) (n : Nat) (J : zJ) (x : Int) (hr_x : -2147483648 ≤ x ∧ x < 2147483648) (g : zJ) (hX : XC J g) (hx : x < 0 → g 0 4 = 99) : tz_Ok l G M_X5_held 1 0 0 [.ref 163, zi x] n J (zqi (fun z J' => RN J' J ∧ (RD2 J → RD2 J') ∧ (J' 163 8 = 0 → z = x ∧ 0 ≤ x) ∧ XC J' g ∧ (0 ≤ x → z = x))) zN := by
  refine tz_Ok.of hl (by decide +kernel) rfl (tb_c1 rfl) (Nat.le_of_ble_eq_true rfl) ?_
  show tz_At l G M_X5_held (tb_rm 1 0 0) none (tb_ZM G 0 0 (zQ n 0 (zqi (fun z J' => RN J' J ∧ (RD2 J → RD2 J') ∧ (J' 163 8 = 0 → z = x ∧ 0 ≤ x) ∧ XC J' g ∧ (0 ≤ x → z = x)))) (zX n 0 zN)) 0 0 n J 0 [some (.ref 163), some (zi x)] []
  refine tz_iload_n (pc := 0) dX5_held_0 rfl rfl ?_
  refine tz_if_ge (pc := 1) (tgt := 12) dX5_held_1 (by decide) (by omega) (fun h_1 => ?_) (fun h_1 => ?_)
  · refine tz_iload_n (pc := 12) dX5_held_12 rfl rfl ?_
    exact tz_iret (pc := 13) (z := x) dX5_held_13 rfl (Nat.le_of_ble_eq_true rfl) (Nat.le_of_ble_eq_true rfl) ⟨Nat.le_refl _, Nat.le_add_right _ _⟩ ⟨_, rfl, (by omega), (by first | exact ⟨RN.rf, id, fun q => ⟨rfl, by omega⟩, hX, fun _ => rfl⟩ | exact ⟨g9, d9, fun q => absurd q v9, Or.inl (hx (by omega)), fun q => by omega⟩)⟩
  · refine tz_aload_n (pc := 4) dX5_held_4 rfl rfl ?_
    refine tz_iconst (pc := 5) dX5_held_5 ?_
    refine tz_cV (pc := 6) (w_fail hl n _ _ (by decide) g (by decide) hX) vl_X5_97 dX5_held_6 o_163 rfl rfl (Nat.le_of_ble_eq_true rfl) ⟨(Nat.le_of_ble_eq_true rfl), (Nat.le_of_ble_eq_true rfl)⟩ rfl rfl (Nat.le_of_ble_eq_true rfl) (Nat.le_of_ble_eq_true rfl) (fun r9 J_6 hq9 => ?_)
    obtain ⟨z_6, rfl, hz_6, g9, d9, e9, v9, x9⟩ := hq9
    refine tz_goto (pc := 9) (tgt := 13) dX5_held_9 (by decide) ?_
    exact tz_iret (pc := 13) (z := z_6) dX5_held_13 rfl (Nat.le_of_ble_eq_true rfl) (Nat.le_of_ble_eq_true rfl) ⟨Nat.le_refl _, Nat.le_add_right _ _⟩ ⟨_, rfl, (by omega), (by first | exact ⟨RN.rf, id, fun q => ⟨rfl, by omega⟩, hX, fun _ => rfl⟩ | exact ⟨g9, d9, fun q => absurd q v9, Or.inl (hx (by omega)), fun q => by omega⟩)⟩

/-- a term, if there is no fault yet -/
noncomputable def pMx (g : zJ) (h x y w : Int) : zJ × Int := if g 0 4 = 0 then pMd g h x y w else (g, 0)
theorem XC.made {J' J g : zJ} {m h a b c x y w z : Int} (hX : XC J g) (hb : J 163 8 = 0) (C : CT J m) (hm : J 6 12 = m) (hh : -8 ≤ h ∧ h < J 1 3) (hx : g 0 4 = 0 → (0 < arh (J 3) h → a = x) ∧ (1 < arh (J 3) h → b = y) ∧ (2 < arh (J 3) h → c = w)) (hr : (0 < arh (J 3) h → 0 ≤ a ∧ a < m) ∧ (1 < arh (J 3) h → 0 ≤ b ∧ b < m) ∧ (2 < arh (J 3) h → 0 ≤ c ∧ c < m)) (p : madeP J m h a b c z J') : XC J' (pMx g h x y w).1 ∧ VQ z (pMx g h x y w) ∧ (z < 0 → (pMx g h x y w).1 0 4 = 99) := by
  unfold pMx
  rcases hX.bad hb with q | ⟨q, hR⟩
  · rw [if_neg (by omega)]
    exact ⟨Or.inl q, fun k => absurd k (by show ¬ g 0 4 = 0; omega), fun _ => q⟩
  · rw [if_pos q]
    exact hR.made q C hm hh (hx q) hr p
theorem pV_x {g : zJ} : pV g = pMx (pU (pN g) 0 7).1 (-1 - (pU (pN g) 0 7).2) 0 0 0 := rfl
theorem pMx_h {g : zJ} {h h' x y w : Int} (e : g 0 4 = 0 → h = h') : pMx g h x y w = pMx g h' x y w := by
  unfold pMx
  split
  · next q => rw [e q]
  · rfl
