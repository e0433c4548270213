set_option maxHeartbeats 4000000 in
set_option maxRecDepth 100000 in
theorem x_entryOf {l : Launch} {G : tb_G} (hl : l.stackTraces = false) (n : Nat) (J : zJ) (t : Int) (hr_t : -2147483648 ≤ t ∧ t < 2147483648)  (h16 : J 164 16 = 126) (h1 : 0 ≤ J 165 152 ∧ J 165 152 ≤ 12) : tz_Ok l G M_X12_entryOf 0 0 0 [.ref 164, zi t] n J (zqi (fun z J' => J = J' ∧ ((0 ≤ z ∧ z < J 165 152 ∧ fnB (fun k => decide (¬ J 165 (153 + k) = t)) (J 165 152) 0 = z) ∨ (z = -1 ∧ fnB (fun k => decide (¬ J 165 (153 + k) = t)) (J 165 152) 0 = J 165 152)))) zN := by
  refine tz_Ok.of hl (by decide +kernel) rfl (tb_c1 rfl) (Nat.le_of_ble_eq_true rfl) ?_
  show tz_At l G M_X12_entryOf (tb_rm 0 0 0) none (tb_ZM G 0 0 (zQ n 0 (zqi (fun z J' => J = J' ∧ ((0 ≤ z ∧ z < J 165 152 ∧ fnB (fun k => decide (¬ J 165 (153 + k) = t)) (J 165 152) 0 = z) ∨ (z = -1 ∧ fnB (fun k => decide (¬ J 165 (153 + k) = t)) (J 165 152) 0 = J 165 152))))) (zX n 0 zN)) 0 0 n J 0 [some (.ref 164), some (zi t), none] []
  refine tz_iconst (pc := 0) dX12_entryOf_0 ?_
  refine tz_istore_n (pc := 1) (L2 := [_, _, _]) dX12_entryOf_1 rfl (by decide) rfl ?_
  have loop2 : ∀ (f9 : Nat) (k : Int), ((12 - k).toNat) < f9 → (0 ≤ k ∧ k ≤ J 165 152) → (∀ q, 0 ≤ q → q < k → ¬ J 165 (153 + q) = t) → tz_At l G M_X12_entryOf (tb_rm 0 0 0) none (tb_ZM G 0 0 (zQ n 0 (zqi (fun z J' => J = J' ∧ ((0 ≤ z ∧ z < J 165 152 ∧ fnB (fun k => decide (¬ J 165 (153 + k) = t)) (J 165 152) 0 = z) ∨ (z = -1 ∧ fnB (fun k => decide (¬ J 165 (153 + k) = t)) (J 165 152) 0 = J 165 152))))) (zX n 0 zN)) 0 0 n J 2 [some (.ref 164), some (zi t), some (zi k)] [] := by
    intro f9
    induction f9 with
    | zero => intro k hm9; exact absurd hm9 (Nat.not_lt_zero _)
    | succ f9 ih2 =>
      intro k hm2 hk hq
      refine tz_iload_n (pc := 2) dX12_entryOf_2 rfl rfl ?_
      refine tz_aload_n (pc := 3) dX12_entryOf_3 rfl rfl ?_
      refine tz_fR (pc := 4) dX12_entryOf_4 fl_X12_9 r_164_0 ?_
      refine tz_aload_n (pc := 7) dX12_entryOf_7 rfl rfl ?_
      refine tz_fI (pc := 8) (kz := 16) (v := 126) dX12_entryOf_8 fl_X12_85 i_164_16 rfl h16 (fun _ => ?_)
      refine tz_bipush (pc := 11) dX12_entryOf_11 (by decide) ?_
      refine tz_iadd (pc := 13) (v := 152) dX12_entryOf_13 (by decide) ?_
      refine tz_aL (pc := 14) (z := 152) (v := (J 165 152)) dX12_entryOf_14 a_165 rfl (by decide) rfl (fun r_14 => ?_)
      refine tz_icmp_ge (pc := 15) (tgt := 44) dX12_entryOf_15 (by decide) (by omega) (by omega) (fun h_15 => ?_) (fun h_15 => ?_)
      · refine tz_iconst (pc := 44) dX12_entryOf_44 ?_
        exact tz_iret (pc := 45) (z := (-1)) dX12_entryOf_45 rfl (Nat.le_of_ble_eq_true rfl) (Nat.le_of_ble_eq_true rfl) ⟨Nat.le_refl _, Nat.le_add_right _ _⟩ ⟨_, rfl, (by decide), ⟨rfl, Or.inr ⟨rfl, fnB_eq (by omega) (by omega) (fun q a b => decide_eq_true (hq q a (by omega))) (Or.inl rfl)⟩⟩⟩
      · refine tz_aload_n (pc := 18) dX12_entryOf_18 rfl rfl ?_
        refine tz_fR (pc := 19) dX12_entryOf_19 fl_X12_9 r_164_0 ?_
        refine tz_aload_n (pc := 22) dX12_entryOf_22 rfl rfl ?_
        refine tz_fI (pc := 23) (kz := 16) (v := 126) dX12_entryOf_23 fl_X12_85 i_164_16 rfl h16 (fun _ => ?_)
        refine tz_bipush (pc := 26) dX12_entryOf_26 (by decide) ?_
        refine tz_iadd (pc := 28) (v := 153) dX12_entryOf_28 (by decide) ?_
        refine tz_iload_n (pc := 29) dX12_entryOf_29 rfl rfl ?_
        refine tz_iadd (pc := 30) (v := 153 + k) dX12_entryOf_30 rfl ?_
        refine tz_aL (pc := 31) (z := (153 + k)) (v := (J 165 (153 + k))) dX12_entryOf_31 a_165 rfl (by omega) rfl (fun r_31 => ?_)
        refine tz_iload_n (pc := 32) dX12_entryOf_32 rfl rfl ?_
        refine tz_icmp_ne (pc := 33) (tgt := 38) dX12_entryOf_33 (by decide) (by omega) (by omega) (fun h_33 => ?_) (fun h_33 => ?_)
        · refine tz_iinc (pc := 38) (z := k + 1) (L2 := [_, _, _]) dX12_entryOf_38 rfl (by omega) rfl ?_
          refine tz_goto (pc := 41) (tgt := 2) dX12_entryOf_41 (by decide) ?_
          exact ih2 (k + 1) (by omega) (by omega) (fun q a b => (Decidable.em (q = k)).elim (fun e => by rw [e]; omega) (fun e => hq q a (by omega)))
        · refine tz_iload_n (pc := 36) dX12_entryOf_36 rfl rfl ?_
          exact tz_iret (pc := 37) (z := k) dX12_entryOf_37 rfl (Nat.le_of_ble_eq_true rfl) (Nat.le_of_ble_eq_true rfl) ⟨Nat.le_refl _, Nat.le_add_right _ _⟩ ⟨_, rfl, (by omega), ⟨rfl, Or.inl ⟨by omega, by omega, fnB_eq (by omega) (by omega) (fun q a b => decide_eq_true (hq q a b)) (Or.inr (decide_eq_false (fun e => e (by omega))))⟩⟩⟩
  exact loop2 _ 0 (Nat.lt_succ_self _) (by omega) (fun q a b => by omega)

set_option maxHeartbeats 4000000 in
set_option maxRecDepth 100000 in
theorem y_room1 {l : Launch} {G : tb_G} (hl : l.stackTraces = false) (n : Nat) (J : zJ)   (s m : Int) (g : zJ) (hI : TI J s m) (hw : ∀ k, 0 ≤ k → k < s → 1 ≤ J 171 (10 + k) ∧ J 171 (10 + k) ≤ 9) (hR : RelM J g) (h9 : g 0 4 = 0) (hS : SI g) : tz_Ok l G M_X12_room1 4 0 0 [.ref 164] n J (zqv (fun J' => CL J' J ∧ (J' 171 = J 171 ∧ J' 164 44 = J 164 44) ∧ RelX J' (pRo g))) zN := by
  refine tz_Ok.of hl (by decide +kernel) rfl (tb_c1 rfl) (Nat.le_of_ble_eq_true rfl) ?_
  show tz_At l G M_X12_room1 (tb_rm 4 0 0) none (tb_ZM G 0 0 (zQ n 0 (zqv (fun J' => CL J' J ∧ (J' 171 = J 171 ∧ J' 164 44 = J 164 44) ∧ RelX J' (pRo g)))) (zX n 0 zN)) 0 0 n J 0 [some (.ref 164)] []
  obtain ⟨hM, h44, hP, hu, hL, h66⟩ := id hI
  have hT := hM.told
  have g0 := MRT.rf hM hP hu
  clear hu
  have hL9 : 0 ≤ J 165 135 ∧ J 165 135 ≤ 8 := hL.1.1
  have hL8 : 0 ≤ J 165 152 ∧ J 165 152 ≤ 12 := hL.2.2.1.1
  have hX : RelX J g := Or.inr hR
  have hb0 : J 164 43 = 0 := hR.1.trans h9
  have hE := (hR.2.2 h9).2
  have nx9 : pNx g = pN g := by unfold pNx; rw [if_pos h9]
  have fx9 : ∀ c, pFx g c = pF g c := fun c => by unfold pFx; rw [if_pos h9]
  refine tz_aload_n (pc := 0) dX12_room1_0 rfl rfl ?_
  refine tz_aload_n (pc := 1) dX12_room1_1 rfl rfl ?_
  refine tz_fI (pc := 2) (kz := 45) (v := (J 164 45)) dX12_room1_2 fl_X12_313 i_164_45 rfl rfl (fun r_2 => ?_)
  refine tz_if_ne (pc := 5) (tgt := 12) dX12_room1_5 (by decide) (by omega) (fun h_5 => ?_) (fun h_5 => ?_)
  · refine tz_iconst (pc := 12) dX12_room1_12 ?_
    refine tz_iconst (pc := 13) dX12_room1_13 ?_
    refine tz_cV (pc := 14) (z_wants hl n _ _ _ (by decide) (by decide) _ hX hb0 (g0).2.1 (by decide)) vl_X12_276 dX12_room1_14 o_164 rfl rfl (Nat.le_of_ble_eq_true rfl) ⟨(Nat.le_of_ble_eq_true rfl), (Nat.le_of_ble_eq_true rfl)⟩ rfl rfl (Nat.le_of_ble_eq_true rfl) (Nat.le_of_ble_eq_true rfl) (fun r9 J_14 hq9 => ?_)
    obtain ⟨z_14, rfl, hz_14, w_14, o_14⟩ := hq9
    obtain ⟨rfl, v_14, x_14⟩ : z_14 = 0 ∧ ¬ J_14 164 43 = 0 ∧ RelX J_14 (pFx g 4) := by rcases o_14 with q | q; exact absurd rfl q.1; exact q.2
    have q_14 := MRT.w g0 w_14
    have s_14 := SI.fx (c := 4) hS
    clear o_14
    refine tz_if_neF (pc := 17) (tgt := 21) (by decide) dX12_room1_17 (by decide) (by decide) ?_
    exact tz_vret (pc := 20) dX12_room1_20 rfl (Nat.le_of_ble_eq_true rfl) (Nat.le_of_ble_eq_true rfl) ⟨Nat.le_refl _, Nat.le_add_right _ _⟩ ⟨rfl, ⟨CL.rt hI q_14, ⟨(q_14).c 171 rfl, (q_14).f 44 rfl⟩, by rw [show pRo g = pF g 4 from by unfold pRo; rw [if_neg (by rw [← hE.2.2.1.2.1]; omega)], ← fx9]; exact x_14⟩⟩
  · refine tz_iconst (pc := 8) dX12_room1_8 ?_
    refine tz_goto (pc := 9) (tgt := 13) dX12_room1_9 (by decide) ?_
    refine tz_iconst (pc := 13) dX12_room1_13 ?_
    refine tz_cV (pc := 14) (z_wants hl n _ _ _ (by decide) (by decide) _ hX hb0 (g0).2.1 (by decide)) vl_X12_276 dX12_room1_14 o_164 rfl rfl (Nat.le_of_ble_eq_true rfl) ⟨(Nat.le_of_ble_eq_true rfl), (Nat.le_of_ble_eq_true rfl)⟩ rfl rfl (Nat.le_of_ble_eq_true rfl) (Nat.le_of_ble_eq_true rfl) (fun r9 J_14 hq9 => ?_)
    obtain ⟨z_14, rfl, hz_14, w_14, o_14⟩ := hq9
    obtain ⟨rfl, rfl⟩ : z_14 = 1 ∧ J = J_14 := by rcases o_14 with q | q; exact q.2; exact absurd q.1 (by decide)
    clear o_14
    refine tz_if_neT (pc := 17) (tgt := 21) (by decide) dX12_room1_17 (by decide) (by decide) ?_
    refine tz_aload_n (pc := 21) dX12_room1_21 rfl rfl ?_
    refine tz_cV (pc := 22) (z_go hl n _ _ hX hb0 hS (g0).2.1) vl_X12_280 dX12_room1_22 o_164 rfl rfl (Nat.le_of_ble_eq_true rfl) ⟨(Nat.le_of_ble_eq_true rfl), (Nat.le_of_ble_eq_true rfl)⟩ rfl rfl (Nat.le_of_ble_eq_true rfl) (Nat.le_of_ble_eq_true rfl) (fun r9 J_22 hq9 => ?_)
    obtain ⟨rfl, w_22, x_22⟩ := hq9
    have q_22 := MRT.w g0 w_22
    have s_22 := SI.nx hS
    refine tz_aload_n (pc := 25) dX12_room1_25 rfl rfl ?_
    refine tz_fR (pc := 26) dX12_room1_26 fl_X12_9 r_164_0 ?_
    refine tz_sipush (pc := 29) dX12_room1_29 (by decide) ?_
    refine tz_aload_n (pc := 32) dX12_room1_32 rfl rfl ?_
    refine tz_iconst (pc := 33) dX12_room1_33 ?_
    refine tz_bipush (pc := 34) dX12_room1_34 (by decide) ?_
    refine tz_cV (pc := 36) (z_number hl n _ _ _ (by decide) (by decide) _ x_22 s_22 (q_22).2.1 (by decide)) vl_X12_290 dX12_room1_36 o_164 rfl rfl (Nat.le_of_ble_eq_true rfl) ⟨(Nat.le_of_ble_eq_true rfl), (Nat.le_of_ble_eq_true rfl)⟩ rfl rfl (Nat.le_of_ble_eq_true rfl) (Nat.le_of_ble_eq_true rfl) (fun r9 J_36 hq9 => ?_)
    obtain ⟨z_36, rfl, hz_36, w_36, b_36, x_36, e_36⟩ := hq9
    have q_36 := MRT.w q_22 w_36
    have s_36 := SI.u (a := 0) (b := 9) s_22
    refine tz_aS (pc := 39) (z := 165) dX12_room1_39 a_165 rfl (by decide) (by omega) ?_
    refine tz_aload_n (pc := 40) dX12_room1_40 rfl rfl ?_
    refine tz_iconst (pc := 41) dX12_room1_41 ?_
    refine tz_pI (pc := 42) (kz := 45) dX12_room1_42 fl_X12_313 i_164_45 rfl rfl (by decide) ?_
    exact tz_vret (pc := 45) dX12_room1_45 rfl (Nat.le_of_ble_eq_true rfl) (Nat.le_of_ble_eq_true rfl) ⟨Nat.le_refl _, Nat.le_add_right _ _⟩ ⟨rfl, ⟨CL.ro hI q_36 (by omega), ⟨(q_36).c 171 rfl, (q_36).f 44 rfl⟩, by have e1 : pO1 g = pU (pNx g) 0 9 := (by unfold pO1; rw [nx9]); have e2 : g 164 45 = 0 := (by rw [← hE.2.2.1.2.1]; omega); by_cases hc : (pU (pNx g) 0 9).1 0 4 = 0; (have e3 : pRo g = zup (zup (pU (pNx g) 0 9).1 165 165 z_36) 164 45 1 := (by unfold pRo; rw [if_pos e2, e1, if_pos hc, ← e_36 hc]); rw [e3]; exact Or.inr (RelM.room (x_36.resolve_left (by omega)) hc)); (have e3 : pRo g = (pU (pNx g) 0 9).1 := (by unfold pRo; rw [if_pos e2, e1, if_neg hc]); rw [e3]; exact x_36.imp id (fun r => r.far hc rfl rfl rfl rfl))⟩⟩

set_option maxHeartbeats 4000000 in
set_option maxRecDepth 100000 in
theorem y_entry1 {l : Launch} {G : tb_G} (hl : l.stackTraces = false) (n : Nat) (J : zJ)   (s m : Int) (g : zJ) (hI : TI J s m) (hw : ∀ k, 0 ≤ k → k < s → 1 ≤ J 171 (10 + k) ∧ J 171 (10 + k) ≤ 9) (hR : RelM J g) (h9 : g 0 4 = 0) (hS : SI g) : tz_Ok l G M_X12_entry1 15 0 0 [.ref 164] n J (zqv (fun J' => CL J' J ∧ (J' 171 = J 171 ∧ J' 164 44 = J 164 44) ∧ RelX J' (pEn g))) zN := by
  refine tz_Ok.of hl (by decide +kernel) rfl (tb_c1 rfl) (Nat.le_of_ble_eq_true rfl) ?_
  show tz_At l G M_X12_entry1 (tb_rm 15 0 0) none (tb_ZM G 0 0 (zQ n 0 (zqv (fun J' => CL J' J ∧ (J' 171 = J 171 ∧ J' 164 44 = J 164 44) ∧ RelX J' (pEn g)))) (zX n 0 zN)) 0 0 n J 0 [some (.ref 164), none] []
  obtain ⟨hM, h44, hP, hu, hL, h66⟩ := id hI
  have hT := hM.told
  have g0 := MRT.rf hM hP hu
  clear hu
  have hL9 : 0 ≤ J 165 135 ∧ J 165 135 ≤ 8 := hL.1.1
  have hL8 : 0 ≤ J 165 152 ∧ J 165 152 ≤ 12 := hL.2.2.1.1
  have hX : RelX J g := Or.inr hR
  have hb0 : J 164 43 = 0 := hR.1.trans h9
  have hE := (hR.2.2 h9).2
  have nx9 : pNx g = pN g := by unfold pNx; rw [if_pos h9]
  have fx9 : ∀ c, pFx g c = pF g c := fun c => by unfold pFx; rw [if_pos h9]
  refine tz_aload_n (pc := 0) dX12_entry1_0 rfl rfl ?_
  refine tz_aload_n (pc := 1) dX12_entry1_1 rfl rfl ?_
  refine tz_fR (pc := 2) dX12_entry1_2 fl_X12_9 r_164_0 ?_
  refine tz_sipush (pc := 5) dX12_entry1_5 (by decide) ?_
  refine tz_aL (pc := 8) (z := 152) (v := (J 165 152)) dX12_entry1_8 a_165 rfl (by decide) rfl (fun r_8 => ?_)
  refine tz_bipush (pc := 9) dX12_entry1_9 (by decide) ?_
  refine tz_icmp_ge (pc := 11) (tgt := 18) dX12_entry1_11 (by decide) (by omega) (by decide) (fun h_11 => ?_) (fun h_11 => ?_)
  · refine tz_iconst (pc := 18) dX12_entry1_18 ?_
    refine tz_iconst (pc := 19) dX12_entry1_19 ?_
    refine tz_cV (pc := 20) (z_wants hl n _ _ _ (by decide) (by decide) _ hX hb0 (g0).2.1 (by decide)) vl_X12_276 dX12_entry1_20 o_164 rfl rfl (Nat.le_of_ble_eq_true rfl) ⟨(Nat.le_of_ble_eq_true rfl), (Nat.le_of_ble_eq_true rfl)⟩ rfl rfl (Nat.le_of_ble_eq_true rfl) (Nat.le_of_ble_eq_true rfl) (fun r9 J_20 hq9 => ?_)
    obtain ⟨z_20, rfl, hz_20, w_20, o_20⟩ := hq9
    obtain ⟨rfl, v_20, x_20⟩ : z_20 = 0 ∧ ¬ J_20 164 43 = 0 ∧ RelX J_20 (pFx g 2) := by rcases o_20 with q | q; exact absurd rfl q.1; exact q.2
    have q_20 := MRT.w g0 w_20
    have s_20 := SI.fx (c := 2) hS
    clear o_20
    refine tz_if_neF (pc := 23) (tgt := 27) (by decide) dX12_entry1_23 (by decide) (by decide) ?_
    exact tz_vret (pc := 26) dX12_entry1_26 rfl (Nat.le_of_ble_eq_true rfl) (Nat.le_of_ble_eq_true rfl) ⟨Nat.le_refl _, Nat.le_add_right _ _⟩ ⟨rfl, ⟨CL.rt hI q_20, ⟨(q_20).c 171 rfl, (q_20).f 44 rfl⟩, by rw [show pEn g = pF g 2 from by unfold pEn; rw [if_neg (by rw [← hE.2.2.2.1 152 (by decide) (by decide)]; omega)], ← fx9]; exact x_20⟩⟩
  · refine tz_iconst (pc := 14) dX12_entry1_14 ?_
    refine tz_goto (pc := 15) (tgt := 19) dX12_entry1_15 (by decide) ?_
    refine tz_iconst (pc := 19) dX12_entry1_19 ?_
    refine tz_cV (pc := 20) (z_wants hl n _ _ _ (by decide) (by decide) _ hX hb0 (g0).2.1 (by decide)) vl_X12_276 dX12_entry1_20 o_164 rfl rfl (Nat.le_of_ble_eq_true rfl) ⟨(Nat.le_of_ble_eq_true rfl), (Nat.le_of_ble_eq_true rfl)⟩ rfl rfl (Nat.le_of_ble_eq_true rfl) (Nat.le_of_ble_eq_true rfl) (fun r9 J_20 hq9 => ?_)
    obtain ⟨z_20, rfl, hz_20, w_20, o_20⟩ := hq9
    obtain ⟨rfl, rfl⟩ : z_20 = 1 ∧ J = J_20 := by rcases o_20 with q | q; exact q.2; exact absurd q.1 (by decide)
    clear o_20
    refine tz_if_neT (pc := 23) (tgt := 27) (by decide) dX12_entry1_23 (by decide) (by decide) ?_
    refine tz_aload_n (pc := 27) dX12_entry1_27 rfl rfl ?_
    refine tz_cV (pc := 28) (z_go hl n _ _ hX hb0 hS (g0).2.1) vl_X12_280 dX12_entry1_28 o_164 rfl rfl (Nat.le_of_ble_eq_true rfl) ⟨(Nat.le_of_ble_eq_true rfl), (Nat.le_of_ble_eq_true rfl)⟩ rfl rfl (Nat.le_of_ble_eq_true rfl) (Nat.le_of_ble_eq_true rfl) (fun r9 J_28 hq9 => ?_)
    obtain ⟨rfl, w_28, x_28⟩ := hq9
    have q_28 := MRT.w g0 w_28
    have s_28 := SI.nx hS
    refine tz_aload_n (pc := 31) dX12_entry1_31 rfl rfl ?_
    refine tz_iconst (pc := 32) dX12_entry1_32 ?_
    refine tz_cV (pc := 33) (z_term1 hl n _ s m _ (q_28).1.1.1 (q_28).2.1 (q_28).2.2.2.2 (((q_28).f 44 rfl).trans h44) x_28 s_28) vl_X12_298 dX12_entry1_33 o_164 rfl rfl (Nat.le_of_ble_eq_true rfl) ⟨(Nat.le_of_ble_eq_true rfl), (Nat.le_of_ble_eq_true rfl)⟩ rfl rfl (Nat.le_of_ble_eq_true rfl) (Nat.le_of_ble_eq_true rfl) (fun r9 J_33 hq9 => ?_)
    obtain ⟨z_33, rfl, hz_33, m_33, w_33, h_33, x_33, y_33⟩ := hq9
    have q_33 := MRT.tr q_28 w_33
    have l_33 := w_33.1.1.2
    have s_33 := SI.t 8 _ 1 s_28
    refine tz_istore_n (pc := 36) (L2 := [_, _]) dX12_entry1_36 rfl (by decide) rfl ?_
    refine tz_aload_n (pc := 37) dX12_entry1_37 rfl rfl ?_
    refine tz_fI (pc := 38) (kz := 43) (v := (J_33 164 43)) dX12_entry1_38 fl_X12_273 i_164_43 rfl rfl (fun r_38 => ?_)
    refine tz_if_ne (pc := 41) (tgt := 93) dX12_entry1_41 (by decide) (by omega) (fun h_41 => ?_) (fun h_41 => ?_)
    · exact tz_vret (pc := 93) dX12_entry1_93 rfl (Nat.le_of_ble_eq_true rfl) (Nat.le_of_ble_eq_true rfl) ⟨Nat.le_refl _, Nat.le_add_right _ _⟩ ⟨rfl, ⟨CL.rt hI q_33, ⟨(q_33).c 171 rfl, (q_33).f 44 rfl⟩, by have lt9 : g 165 152 < 12 := (by rw [← hE.2.2.2.1 152 (by decide) (by decide)]; omega); have e1 : pR1 g = (pT 8 (pNx g) 1) := (by unfold pR1; rw [nx9]); have n9 := x_33.no (by omega); rw [show pEn g = (pT 8 (pNx g) 1).1 from by unfold pEn; rw [if_pos lt9, e1, if_neg n9]]; exact x_33⟩⟩
    · have ro33 : J_33 165 152 = J 165 152 := ((q_33).1.2.2.1.2.1 152 (by decide) rfl)
      have pe : (J_33 164 43 = 0) → ∀ hc : (pT 8 (pNx g) 1).1 0 4 = 0, fnB (fun k => decide (¬ J_33 165 (153 + k) = z_33)) (J_33 165 152) 0 = pey (pT 8 (pNx g) 1).1 (pT 8 (pNx g) 1).2 ∧ J_33 165 152 = (pT 8 (pNx g) 1).1 165 152 := fun _ hc => by have em := (x_33.tk hc).2.2.2.2.1; have e1 : J_33 165 152 = (pT 8 (pNx g) 1).1 165 152 := em 152 (by decide) (by decide); refine ⟨?_, e1⟩; unfold pey; rw [← y_33 hc, ← e1]; exact fnB_cg (fun j a b => by rw [em (153 + j) (by omega) (by omega)])
      refine tz_aload_n (pc := 44) dX12_entry1_44 rfl rfl ?_
      refine tz_aload_n (pc := 45) dX12_entry1_45 rfl rfl ?_
      refine tz_fI (pc := 46) (kz := 42) (v := (J_33 164 42)) dX12_entry1_46 fl_X12_258 i_164_42 rfl rfl (fun r_46 => ?_)
      refine tz_bipush (pc := 49) dX12_entry1_49 (by decide) ?_
      refine tz_icmp_ne (pc := 51) (tgt := 58) dX12_entry1_51 (by decide) (by omega) (by decide) (fun h_51 => ?_) (fun h_51 => ?_)
      · refine tz_iconst (pc := 58) dX12_entry1_58 ?_
        refine tz_iconst (pc := 59) dX12_entry1_59 ?_
        refine tz_cV (pc := 60) (z_wants hl n _ _ _ (by decide) (by decide) _ x_33 (by omega) (q_33).2.1 (by decide)) vl_X12_276 dX12_entry1_60 o_164 rfl rfl (Nat.le_of_ble_eq_true rfl) ⟨(Nat.le_of_ble_eq_true rfl), (Nat.le_of_ble_eq_true rfl)⟩ rfl rfl (Nat.le_of_ble_eq_true rfl) (Nat.le_of_ble_eq_true rfl) (fun r9 J_60 hq9 => ?_)
        obtain ⟨z_60, rfl, hz_60, w_60, o_60⟩ := hq9
        obtain ⟨rfl, v_60, x_60⟩ : z_60 = 0 ∧ ¬ J_60 164 43 = 0 ∧ RelX J_60 (pFx (pT 8 (pNx g) 1).1 1) := by rcases o_60 with q | q; exact absurd rfl q.1; exact q.2
        have q_60 := MRT.w q_33 w_60
        have s_60 := SI.fx (c := 1) s_33
        clear o_60
        refine tz_if_eqT (pc := 63) (tgt := 93) (by decide) dX12_entry1_63 (by decide) (by decide) ?_
        exact tz_vret (pc := 93) dX12_entry1_93 rfl (Nat.le_of_ble_eq_true rfl) (Nat.le_of_ble_eq_true rfl) ⟨Nat.le_refl _, Nat.le_add_right _ _⟩ ⟨rfl, ⟨CL.rt hI q_60, ⟨(q_60).c 171 rfl, (q_60).f 44 rfl⟩, by have lt9 : g 165 152 < 12 := (by rw [← hE.2.2.2.1 152 (by decide) (by decide)]; omega); have e1 : pR1 g = (pT 8 (pNx g) 1) := (by unfold pR1; rw [nx9]); have e2 : pEn g = pFx (pT 8 (pNx g) 1).1 1 := (by unfold pEn pFx; rw [if_pos lt9, e1]; rcases x_33.bad h_41 with hc | ⟨hc, r⟩; rw [if_neg (by omega), if_neg (by omega)]; rw [if_pos hc, if_pos hc, if_neg (by have := (r.2.2 hc).1.sg (c := 59) (by decide); omega)]); rw [e2]; exact x_60⟩⟩
      · refine tz_iconst (pc := 54) dX12_entry1_54 ?_
        refine tz_goto (pc := 55) (tgt := 59) dX12_entry1_55 (by decide) ?_
        refine tz_iconst (pc := 59) dX12_entry1_59 ?_
        refine tz_cV (pc := 60) (z_wants hl n _ _ _ (by decide) (by decide) _ x_33 (by omega) (q_33).2.1 (by decide)) vl_X12_276 dX12_entry1_60 o_164 rfl rfl (Nat.le_of_ble_eq_true rfl) ⟨(Nat.le_of_ble_eq_true rfl), (Nat.le_of_ble_eq_true rfl)⟩ rfl rfl (Nat.le_of_ble_eq_true rfl) (Nat.le_of_ble_eq_true rfl) (fun r9 J_60 hq9 => ?_)
        obtain ⟨z_60, rfl, hz_60, w_60, o_60⟩ := hq9
        obtain ⟨rfl, rfl⟩ : z_60 = 1 ∧ J_33 = J_60 := by rcases o_60 with q | q; exact q.2; exact absurd q.1 (by decide)
        clear o_60
        refine tz_if_eqF (pc := 63) (tgt := 93) (by decide) dX12_entry1_63 (by decide) (by decide) ?_
        refine tz_aload_n (pc := 66) dX12_entry1_66 rfl rfl ?_
        refine tz_aload_n (pc := 67) dX12_entry1_67 rfl rfl ?_
        refine tz_iload_n (pc := 68) dX12_entry1_68 rfl rfl ?_
        have ro_69 : J_33 165 152 = J 165 152 := ((q_33).1.2.2.1.2.1 152 (by decide) rfl)
        refine tz_cV (pc := 69) (x_entryOf hl n _ _ (by omega) (q_33).1.1.1.2.2.1 (by rw [ro_69]; omega)) vl_X12_307 dX12_entry1_69 o_164 rfl rfl (Nat.le_of_ble_eq_true rfl) ⟨(Nat.le_of_ble_eq_true rfl), (Nat.le_of_ble_eq_true rfl)⟩ rfl rfl (Nat.le_of_ble_eq_true rfl) (Nat.le_of_ble_eq_true rfl) (fun r9 J_69 hq9 => ?_)
        obtain ⟨z_69, rfl, hz_69, rfl, he_69⟩ := hq9
        refine tz_iconst (pc := 72) dX12_entry1_72 ?_
        refine tz_icmp_ne (pc := 73) (tgt := 80) dX12_entry1_73 (by decide) (by omega) (by decide) (fun h_73 => ?_) (fun h_73 => ?_)
        · refine tz_iconst (pc := 80) dX12_entry1_80 ?_
          refine tz_iconst (pc := 81) dX12_entry1_81 ?_
          refine tz_cV (pc := 82) (z_wants hl n _ _ _ (by decide) (by decide) _ x_33 (by omega) (q_33).2.1 (by decide)) vl_X12_276 dX12_entry1_82 o_164 rfl rfl (Nat.le_of_ble_eq_true rfl) ⟨(Nat.le_of_ble_eq_true rfl), (Nat.le_of_ble_eq_true rfl)⟩ rfl rfl (Nat.le_of_ble_eq_true rfl) (Nat.le_of_ble_eq_true rfl) (fun r9 J_82 hq9 => ?_)
          obtain ⟨z_82, rfl, hz_82, w_82, o_82⟩ := hq9
          obtain ⟨rfl, v_82, x_82⟩ : z_82 = 0 ∧ ¬ J_82 164 43 = 0 ∧ RelX J_82 (pFx (pT 8 (pNx g) 1).1 5) := by rcases o_82 with q | q; exact absurd rfl q.1; exact q.2
          have q_82 := MRT.w q_33 w_82
          have s_82 := SI.fx (c := 5) s_33
          clear o_82
          refine tz_if_eqT (pc := 85) (tgt := 93) (by decide) dX12_entry1_85 (by decide) (by decide) ?_
          exact tz_vret (pc := 93) dX12_entry1_93 rfl (Nat.le_of_ble_eq_true rfl) (Nat.le_of_ble_eq_true rfl) ⟨Nat.le_refl _, Nat.le_add_right _ _⟩ ⟨rfl, ⟨CL.rt hI q_82, ⟨(q_82).c 171 rfl, (q_82).f 44 rfl⟩, by have lt9 : g 165 152 < 12 := (by rw [← hE.2.2.2.1 152 (by decide) (by decide)]; omega); have e1 : pR1 g = (pT 8 (pNx g) 1) := (by unfold pR1; rw [nx9]); have e2 : pEn g = pFx (pT 8 (pNx g) 1).1 5 := (by unfold pEn pFx; rw [if_pos lt9, e1]; rcases x_33.bad h_41 with hc | ⟨hc, r⟩; rw [if_neg (by omega), if_neg (by omega)]; rw [if_pos hc, if_pos hc, if_pos ((r.2.2 hc).1.sg (c := 59) (by decide) |>.1 (by omega)), if_pos (by have p1 := pe h_41 hc; omega)]); rw [e2]; exact x_82⟩⟩
        · refine tz_iconst (pc := 76) dX12_entry1_76 ?_
          refine tz_goto (pc := 77) (tgt := 81) dX12_entry1_77 (by decide) ?_
          refine tz_iconst (pc := 81) dX12_entry1_81 ?_
          refine tz_cV (pc := 82) (z_wants hl n _ _ _ (by decide) (by decide) _ x_33 (by omega) (q_33).2.1 (by decide)) vl_X12_276 dX12_entry1_82 o_164 rfl rfl (Nat.le_of_ble_eq_true rfl) ⟨(Nat.le_of_ble_eq_true rfl), (Nat.le_of_ble_eq_true rfl)⟩ rfl rfl (Nat.le_of_ble_eq_true rfl) (Nat.le_of_ble_eq_true rfl) (fun r9 J_82 hq9 => ?_)
          obtain ⟨z_82, rfl, hz_82, w_82, o_82⟩ := hq9
          obtain ⟨rfl, rfl⟩ : z_82 = 1 ∧ J_33 = J_82 := by rcases o_82 with q | q; exact q.2; exact absurd q.1 (by decide)
          clear o_82
          refine tz_if_eqF (pc := 85) (tgt := 93) (by decide) dX12_entry1_85 (by decide) (by decide) ?_
          refine tz_aload_n (pc := 88) dX12_entry1_88 rfl rfl ?_
          refine tz_iload_n (pc := 89) dX12_entry1_89 rfl rfl ?_
          have hv9 := h_33 h_41
          have ro9_90 : J_33 165 (126 + 26) = J 165 152 := ((q_33).1.2.2.1.2.1 152 (by decide) rfl)
          refine tz_cV (pc := 90) (m_enters1 hl n _ _ (by omega) 126 (q_33).1.1.1.2.2.1 (by decide) (by omega)) vl_X12_310 dX12_entry1_90 o_164 rfl rfl (Nat.le_of_ble_eq_true rfl) ⟨(Nat.le_of_ble_eq_true rfl), (Nat.le_of_ble_eq_true rfl)⟩ rfl rfl (Nat.le_of_ble_eq_true rfl) (Nat.le_of_ble_eq_true rfl) (fun r9 J_90 hq9 => ?_)
          obtain ⟨rfl, hr_90⟩ := hq9
          exact tz_vret (pc := 93) dX12_entry1_93 rfl (Nat.le_of_ble_eq_true rfl) (Nat.le_of_ble_eq_true rfl) ⟨Nat.le_refl _, Nat.le_add_right _ _⟩ ⟨rfl, ⟨by rw [← hr_90]; exact CL.tr (CL.en (hI.rt q_33) (by omega) hv9) (CL.rt hI q_33), by rw [← hr_90]; exact ⟨(q_33).c 171 rfl, (q_33).f 44 rfl⟩, by have lt9 : g 165 152 < 12 := (by rw [← hE.2.2.2.1 152 (by decide) (by decide)]; omega); have e1 : pR1 g = (pT 8 (pNx g) 1) := (by unfold pR1; rw [nx9]); rcases x_33.bad h_41 with hc | ⟨hc, r⟩; (have e2 : pEn g = (pT 8 (pNx g) 1).1 := (by unfold pEn; rw [if_pos lt9, e1, if_neg (by omega)]); rw [e2]; exact Or.inl hc); (have p1 := pe h_41 hc; have e2 : pEn g = zen (pT 8 (pNx g) 1).1 126 z_33 := (by unfold pEn; rw [if_pos lt9, e1, if_pos hc, if_pos ((r.2.2 hc).1.sg (c := 59) (by decide) |>.1 (by omega)), if_neg (by omega), ← y_33 hc]); rw [e2, ← hr_90]; exact Or.inr (r.en hc))⟩⟩

theorem pFx_0 {g : zJ} {c : Int} (h : g 0 4 = 0) : pFx g c = pF g c := by unfold pFx; rw [if_pos h]
theorem pFx_1 {g : zJ} {c : Int} (h : ¬ g 0 4 = 0) : pFx g c = g := by unfold pFx; rw [if_neg h]
theorem toA {J g : zJ} (h : RelX J g) (hb : J 164 43 = 0) (hw : J 164 40 = 5) : pTo g = pNx g := by
  unfold pTo pNx
  rcases h.bad hb with q | ⟨q, r⟩
  · rw [if_neg (by omega), if_neg (by omega)]
  · rw [if_pos q, if_pos q]
    refine cif_pos ?_
    obtain ⟨_, _, h3⟩ := (r.2.2 q).1
    rcases h3 with u | u | u | u | u
    · omega
    · refine ⟨u.1, ?_⟩
      have wd := u.2.2.2.2
      rw [hw] at wd
      unfold WD at wd
      rcases wd with ⟨_, e⟩ | ⟨_, ⟨_, e⟩ | ⟨_, ⟨_, e⟩ | ⟨_, ⟨_, e⟩ | ⟨_, ⟨_, e⟩ | ⟨_, ⟨e, _⟩ | ⟨_, e⟩⟩⟩⟩⟩⟩
      · omega
      · omega
      · omega
      · omega
      · omega
      · exact e
      · omega
    · omega
    · omega
    · omega
theorem toB {J g : zJ} (h : RelX J g) (hb : J 164 43 = 0) (hw : ¬ J 164 40 = 5) : pTo g = pFx g 1 := by
  unfold pTo pFx
  rcases h.bad hb with q | ⟨q, r⟩
  · rw [if_neg (by omega), if_neg (by omega)]
  · rw [if_pos q, if_pos q]
    refine cif_neg (fun p => ?_)
    obtain ⟨_, _, h3⟩ := (r.2.2 q).1
    have p1 := p.1
    rcases h3 with u | u | u | u | u
    · omega
    · have wd := u.2.2.2.2
      unfold WD at wd
      rcases wd with ⟨m0, e⟩ | ⟨_, ⟨m0, e⟩ | ⟨_, ⟨m0, e⟩ | ⟨_, ⟨m0, e⟩ | ⟨_, ⟨m0, e⟩ | ⟨_, ⟨_, e⟩ | ⟨n0, _⟩⟩⟩⟩⟩⟩
      · have a1 : g 0 2 = g 0 1 + 6 := m0.2
        have a2 : g 0 2 = g 0 1 + 2 := p.2.2
        omega
      · have a1 : g 0 2 = g 0 1 + 4 := m0.2
        have a2 : g 0 2 = g 0 1 + 2 := p.2.2
        omega
      · have a1 : g 0 2 = g 0 1 + 4 := m0.2
        have a2 : g 0 2 = g 0 1 + 2 := p.2.2
        omega
      · have a1 : g 0 2 = g 0 1 + 5 := m0.2
        have a2 : g 0 2 = g 0 1 + 2 := p.2.2
        omega
      · have a1 : g 0 2 = g 0 1 + 4 := m0.2
        have a2 : g 0 2 = g 0 1 + 2 := p.2.2
        omega
      · exact hw e
      · exact n0 p.2
    · omega
    · omega
    · omega
theorem toC {g : zJ} (h : ¬ g 0 4 = 0) : pTo g = g := by unfold pTo; rw [if_neg h]
set_option maxHeartbeats 4000000 in
set_option maxRecDepth 100000 in
theorem y_rule1 {l : Launch} {G : tb_G} (hl : l.stackTraces = false) (n : Nat) (J : zJ)   (s m : Int) (g : zJ) (hI : TI J s m) (hw : ∀ k, 0 ≤ k → k < s → 1 ≤ J 171 (10 + k) ∧ J 171 (10 + k) ≤ 9) (hR : RelM J g) (h9 : g 0 4 = 0) (hS : SI g) : tz_Ok l G M_X12_rule1 21 0 0 [.ref 164] n J (zqv (fun J' => CL J' J ∧ (J' 171 = J 171 ∧ J' 164 44 = J 164 44) ∧ RelX J' (pRu g))) zN := by
  refine tz_Ok.of hl (by decide +kernel) rfl (tb_c1 rfl) (Nat.le_of_ble_eq_true rfl) ?_
  show tz_At l G M_X12_rule1 (tb_rm 21 0 0) none (tb_ZM G 0 0 (zQ n 0 (zqv (fun J' => CL J' J ∧ (J' 171 = J 171 ∧ J' 164 44 = J 164 44) ∧ RelX J' (pRu g)))) (zX n 0 zN)) 0 0 n J 0 [some (.ref 164), none, none] []
  obtain ⟨hM, h44, hP, hu, hL, h66⟩ := id hI
  have hT := hM.told
  have g0 := MRT.rf hM hP hu
  clear hu
  have hL9 : 0 ≤ J 165 135 ∧ J 165 135 ≤ 8 := hL.1.1
  have hL8 : 0 ≤ J 165 152 ∧ J 165 152 ≤ 12 := hL.2.2.1.1
  have hX : RelX J g := Or.inr hR
  have hb0 : J 164 43 = 0 := hR.1.trans h9
  have hE := (hR.2.2 h9).2
  have nx9 : pNx g = pN g := by unfold pNx; rw [if_pos h9]
  have fx9 : ∀ c, pFx g c = pF g c := fun c => by unfold pFx; rw [if_pos h9]
  refine tz_aload_n (pc := 0) dX12_rule1_0 rfl rfl ?_
  refine tz_aload_n (pc := 1) dX12_rule1_1 rfl rfl ?_
  refine tz_fR (pc := 2) dX12_rule1_2 fl_X12_9 r_164_0 ?_
  refine tz_sipush (pc := 5) dX12_rule1_5 (by decide) ?_
  refine tz_aL (pc := 8) (z := 135) (v := (J 165 135)) dX12_rule1_8 a_165 rfl (by decide) rfl (fun r_8 => ?_)
  refine tz_bipush (pc := 9) dX12_rule1_9 (by decide) ?_
  refine tz_icmp_ge (pc := 11) (tgt := 18) dX12_rule1_11 (by decide) (by omega) (by decide) (fun h_11 => ?_) (fun h_11 => ?_)
  · refine tz_iconst (pc := 18) dX12_rule1_18 ?_
    refine tz_iconst (pc := 19) dX12_rule1_19 ?_
    refine tz_cV (pc := 20) (z_wants hl n _ _ _ (by decide) (by decide) _ hX hb0 (g0).2.1 (by decide)) vl_X12_276 dX12_rule1_20 o_164 rfl rfl (Nat.le_of_ble_eq_true rfl) ⟨(Nat.le_of_ble_eq_true rfl), (Nat.le_of_ble_eq_true rfl)⟩ rfl rfl (Nat.le_of_ble_eq_true rfl) (Nat.le_of_ble_eq_true rfl) (fun r9 J_20 hq9 => ?_)
    obtain ⟨z_20, rfl, hz_20, w_20, o_20⟩ := hq9
    obtain ⟨rfl, v_20, x_20⟩ : z_20 = 0 ∧ ¬ J_20 164 43 = 0 ∧ RelX J_20 (pFx g 2) := by rcases o_20 with q | q; exact absurd rfl q.1; exact q.2
    have q_20 := MRT.w g0 w_20
    have s_20 := SI.fx (c := 2) hS
    clear o_20
    refine tz_if_neF (pc := 23) (tgt := 27) (by decide) dX12_rule1_23 (by decide) (by decide) ?_
    exact tz_vret (pc := 26) dX12_rule1_26 rfl (Nat.le_of_ble_eq_true rfl) (Nat.le_of_ble_eq_true rfl) ⟨Nat.le_refl _, Nat.le_add_right _ _⟩ ⟨rfl, ⟨CL.rt hI q_20, ⟨(q_20).c 171 rfl, (q_20).f 44 rfl⟩, by rw [show pRu g = pF g 2 from by unfold pRu; rw [if_neg (by rw [← hE.2.2.2.1 135 (by decide) (by decide)]; omega)], ← fx9]; exact x_20⟩⟩
  · refine tz_iconst (pc := 14) dX12_rule1_14 ?_
    refine tz_goto (pc := 15) (tgt := 19) dX12_rule1_15 (by decide) ?_
    refine tz_iconst (pc := 19) dX12_rule1_19 ?_
    refine tz_cV (pc := 20) (z_wants hl n _ _ _ (by decide) (by decide) _ hX hb0 (g0).2.1 (by decide)) vl_X12_276 dX12_rule1_20 o_164 rfl rfl (Nat.le_of_ble_eq_true rfl) ⟨(Nat.le_of_ble_eq_true rfl), (Nat.le_of_ble_eq_true rfl)⟩ rfl rfl (Nat.le_of_ble_eq_true rfl) (Nat.le_of_ble_eq_true rfl) (fun r9 J_20 hq9 => ?_)
    obtain ⟨z_20, rfl, hz_20, w_20, o_20⟩ := hq9
    obtain ⟨rfl, rfl⟩ : z_20 = 1 ∧ J = J_20 := by rcases o_20 with q | q; exact q.2; exact absurd q.1 (by decide)
    clear o_20
    refine tz_if_neT (pc := 23) (tgt := 27) (by decide) dX12_rule1_23 (by decide) (by decide) ?_
    refine tz_aload_n (pc := 27) dX12_rule1_27 rfl rfl ?_
    refine tz_cV (pc := 28) (z_go hl n _ _ hX hb0 hS (g0).2.1) vl_X12_280 dX12_rule1_28 o_164 rfl rfl (Nat.le_of_ble_eq_true rfl) ⟨(Nat.le_of_ble_eq_true rfl), (Nat.le_of_ble_eq_true rfl)⟩ rfl rfl (Nat.le_of_ble_eq_true rfl) (Nat.le_of_ble_eq_true rfl) (fun r9 J_28 hq9 => ?_)
    obtain ⟨rfl, w_28, x_28⟩ := hq9
    have q_28 := MRT.w g0 w_28
    have s_28 := SI.nx hS
    refine tz_aload_n (pc := 31) dX12_rule1_31 rfl rfl ?_
    refine tz_iconst (pc := 32) dX12_rule1_32 ?_
    refine tz_cV (pc := 33) (z_term1 hl n _ s m _ (q_28).1.1.1 (q_28).2.1 (q_28).2.2.2.2 (((q_28).f 44 rfl).trans h44) x_28 s_28) vl_X12_298 dX12_rule1_33 o_164 rfl rfl (Nat.le_of_ble_eq_true rfl) ⟨(Nat.le_of_ble_eq_true rfl), (Nat.le_of_ble_eq_true rfl)⟩ rfl rfl (Nat.le_of_ble_eq_true rfl) (Nat.le_of_ble_eq_true rfl) (fun r9 J_33 hq9 => ?_)
    obtain ⟨z_33, rfl, hz_33, m_33, w_33, h_33, x_33, y_33⟩ := hq9
    have q_33 := MRT.tr q_28 w_33
    have l_33 := w_33.1.1.2
    have s_33 := SI.t 8 _ 1 s_28
    refine tz_istore_n (pc := 36) (L2 := [_, _, _]) dX12_rule1_36 rfl (by decide) rfl ?_
    refine tz_aload_n (pc := 37) dX12_rule1_37 rfl rfl ?_
    refine tz_fI (pc := 38) (kz := 43) (v := (J_33 164 43)) dX12_rule1_38 fl_X12_273 i_164_43 rfl rfl (fun r_38 => ?_)
    refine tz_if_ne (pc := 41) (tgt := 69) dX12_rule1_41 (by decide) (by omega) (fun h_41 => ?_) (fun h_41 => ?_)
    · refine tz_aload_n (pc := 69) dX12_rule1_69 rfl rfl ?_
      refine tz_iconst (pc := 70) dX12_rule1_70 ?_
      refine tz_cV (pc := 71) (z_term1 hl n _ s m_33 _ (q_33).1.1.1 (q_33).2.1 (q_33).2.2.2.2 (((q_33).f 44 rfl).trans h44) x_33 s_33) vl_X12_298 dX12_rule1_71 o_164 rfl rfl (Nat.le_of_ble_eq_true rfl) ⟨(Nat.le_of_ble_eq_true rfl), (Nat.le_of_ble_eq_true rfl)⟩ rfl rfl (Nat.le_of_ble_eq_true rfl) (Nat.le_of_ble_eq_true rfl) (fun r9 J_71 hq9 => ?_)
      obtain ⟨z_71, rfl, hz_71, m_71, w_71, h_71, x_71, y_71⟩ := hq9
      have q_71 := MRT.tr q_33 w_71
      have l_71 := w_71.1.1.2
      have s_71 := SI.t 8 _ 1 s_33
      have t9 : pTo (pT 8 (pNx g) 1).1 = (pT 8 (pNx g) 1).1 := toC (x_33.no (by omega))
      refine tz_istore_n (pc := 74) (L2 := [_, _, _]) dX12_rule1_74 rfl (by decide) rfl ?_
      refine tz_aload_n (pc := 75) dX12_rule1_75 rfl rfl ?_
      refine tz_fI (pc := 76) (kz := 43) (v := (J_71 164 43)) dX12_rule1_76 fl_X12_273 i_164_43 rfl rfl (fun r_76 => ?_)
      refine tz_if_ne (pc := 79) (tgt := 118) dX12_rule1_79 (by decide) (by omega) (fun h_79 => ?_) (fun h_79 => ?_)
      · exact tz_vret (pc := 118) dX12_rule1_118 rfl (Nat.le_of_ble_eq_true rfl) (Nat.le_of_ble_eq_true rfl) ⟨Nat.le_refl _, Nat.le_add_right _ _⟩ ⟨rfl, ⟨CL.rt hI q_71, ⟨(q_71).c 171 rfl, (q_71).f 44 rfl⟩, by have lt9 : g 165 135 < 8 := (by rw [← hE.2.2.2.1 135 (by decide) (by decide)]; omega); have e1 : pR1 g = (pT 8 (pNx g) 1) := (by unfold pR1; rw [nx9]); have e2 : pR2 g = (pT 8 (pT 8 (pNx g) 1).1 1) := (by unfold pR2; rw [e1, t9]); have n9 := x_71.no (by omega); rw [show pRu g = (pT 8 (pT 8 (pNx g) 1).1 1).1 from by unfold pRu; rw [if_pos lt9, e2, if_neg n9]]; exact x_71⟩⟩
      · refine tz_aload_n (pc := 82) dX12_rule1_82 rfl rfl ?_
        refine tz_aload_n (pc := 83) dX12_rule1_83 rfl rfl ?_
        refine tz_fI (pc := 84) (kz := 42) (v := (J_71 164 42)) dX12_rule1_84 fl_X12_258 i_164_42 rfl rfl (fun r_84 => ?_)
        refine tz_bipush (pc := 87) dX12_rule1_87 (by decide) ?_
        refine tz_icmp_ne (pc := 89) (tgt := 96) dX12_rule1_89 (by decide) (by omega) (by decide) (fun h_89 => ?_) (fun h_89 => ?_)
        · refine tz_iconst (pc := 96) dX12_rule1_96 ?_
          refine tz_iconst (pc := 97) dX12_rule1_97 ?_
          refine tz_cV (pc := 98) (z_wants hl n _ _ _ (by decide) (by decide) _ x_71 (by omega) (q_71).2.1 (by decide)) vl_X12_276 dX12_rule1_98 o_164 rfl rfl (Nat.le_of_ble_eq_true rfl) ⟨(Nat.le_of_ble_eq_true rfl), (Nat.le_of_ble_eq_true rfl)⟩ rfl rfl (Nat.le_of_ble_eq_true rfl) (Nat.le_of_ble_eq_true rfl) (fun r9 J_98 hq9 => ?_)
          obtain ⟨z_98, rfl, hz_98, w_98, o_98⟩ := hq9
          obtain ⟨rfl, v_98, x_98⟩ : z_98 = 0 ∧ ¬ J_98 164 43 = 0 ∧ RelX J_98 (pFx (pT 8 (pT 8 (pNx g) 1).1 1).1 1) := by rcases o_98 with q | q; exact absurd rfl q.1; exact q.2
          have q_98 := MRT.w q_71 w_98
          have s_98 := SI.fx (c := 1) s_71
          clear o_98
          refine tz_if_eqT (pc := 101) (tgt := 118) (by decide) dX12_rule1_101 (by decide) (by decide) ?_
          exact tz_vret (pc := 118) dX12_rule1_118 rfl (Nat.le_of_ble_eq_true rfl) (Nat.le_of_ble_eq_true rfl) ⟨Nat.le_refl _, Nat.le_add_right _ _⟩ ⟨rfl, ⟨CL.rt hI q_98, ⟨(q_98).c 171 rfl, (q_98).f 44 rfl⟩, by have lt9 : g 165 135 < 8 := (by rw [← hE.2.2.2.1 135 (by decide) (by decide)]; omega); have e1 : pR1 g = (pT 8 (pNx g) 1) := (by unfold pR1; rw [nx9]); have e2 : pR2 g = (pT 8 (pT 8 (pNx g) 1).1 1) := (by unfold pR2; rw [e1, t9]); have e3 : pRu g = pFx (pT 8 (pT 8 (pNx g) 1).1 1).1 1 := (by unfold pRu; rw [if_pos lt9, e2]; rcases x_71.bad h_79 with hc | ⟨hc, r⟩; rw [if_neg (by omega), pFx_1 (g := (pT 8 (pT 8 (pNx g) 1).1 1).1) (c := 1) (by omega)]; rw [if_pos hc, pFx_0 (g := (pT 8 (pT 8 (pNx g) 1).1 1).1) (c := 1) hc, if_neg (by have := (r.2.2 hc).1.sg (c := 59) (by decide); omega)]); rw [e3]; exact x_98⟩⟩
        · refine tz_iconst (pc := 92) dX12_rule1_92 ?_
          refine tz_goto (pc := 93) (tgt := 97) dX12_rule1_93 (by decide) ?_
          refine tz_iconst (pc := 97) dX12_rule1_97 ?_
          refine tz_cV (pc := 98) (z_wants hl n _ _ _ (by decide) (by decide) _ x_71 (by omega) (q_71).2.1 (by decide)) vl_X12_276 dX12_rule1_98 o_164 rfl rfl (Nat.le_of_ble_eq_true rfl) ⟨(Nat.le_of_ble_eq_true rfl), (Nat.le_of_ble_eq_true rfl)⟩ rfl rfl (Nat.le_of_ble_eq_true rfl) (Nat.le_of_ble_eq_true rfl) (fun r9 J_98 hq9 => ?_)
          obtain ⟨z_98, rfl, hz_98, w_98, o_98⟩ := hq9
          obtain ⟨rfl, rfl⟩ : z_98 = 1 ∧ J_71 = J_98 := by rcases o_98 with q | q; exact q.2; exact absurd q.1 (by decide)
          clear o_98
          refine tz_if_eqF (pc := 101) (tgt := 118) (by decide) dX12_rule1_101 (by decide) (by decide) ?_
          refine tz_aload_n (pc := 104) dX12_rule1_104 rfl rfl ?_
          refine tz_aload_n (pc := 105) dX12_rule1_105 rfl rfl ?_
          refine tz_iload_n (pc := 106) dX12_rule1_106 rfl rfl ?_
          refine tz_iload_n (pc := 107) dX12_rule1_107 rfl rfl ?_
          have hb_71 : J_71 164 43 = 0 := h_79
          have hb_33 := w_71.2.2.1 hb_71
          have hv1 := h_33 hb_33
          have hv2 := h_71 hb_71
          have hl9 : m_33 ≤ m_71 := by have := l_71; omega
          have hwc : ∀ k, 0 ≤ k → k < s → 1 ≤ J_71 171 (10 + k) ∧ J_71 171 (10 + k) ≤ 9 := fun k a b => by rw [(q_71).c 171 rfl]; exact hw k a b
          refine tz_cV (pc := 108) (x_isRule hl n _ _ _ (by omega) (by omega) 800 126 10 s m_71 (q_71).1.1.1 (by omega) (by omega) hwc) vl_X12_301 dX12_rule1_108 o_164 rfl rfl (Nat.le_of_ble_eq_true rfl) ⟨(Nat.le_of_ble_eq_true rfl), (Nat.le_of_ble_eq_true rfl)⟩ rfl rfl (Nat.le_of_ble_eq_true rfl) (Nat.le_of_ble_eq_true rfl) (fun r9 J_108 hq9 => ?_)
          obtain ⟨z_108, rfl, hz_108, rfl, hz_r⟩ := hq9
          rcases hz_r with ⟨rfl, hru⟩ | ⟨rfl, hru⟩
          · refine tz_iconst (pc := 111) dX12_rule1_111 ?_
            refine tz_cV (pc := 112) (z_wants hl n _ _ _ (by decide) (by decide) _ x_71 (by omega) (q_71).2.1 (by decide)) vl_X12_276 dX12_rule1_112 o_164 rfl rfl (Nat.le_of_ble_eq_true rfl) ⟨(Nat.le_of_ble_eq_true rfl), (Nat.le_of_ble_eq_true rfl)⟩ rfl rfl (Nat.le_of_ble_eq_true rfl) (Nat.le_of_ble_eq_true rfl) (fun r9 J_112 hq9 => ?_)
            obtain ⟨z_112, rfl, hz_112, w_112, o_112⟩ := hq9
            obtain ⟨rfl, rfl⟩ : z_112 = 1 ∧ J_71 = J_112 := by rcases o_112 with q | q; exact q.2; exact absurd q.1 (by decide)
            clear o_112
            refine tz_if_neT (pc := 115) (tgt := 119) (by decide) dX12_rule1_115 (by decide) (by decide) ?_
            refine tz_aload_n (pc := 119) dX12_rule1_119 rfl rfl ?_
            refine tz_iload_n (pc := 120) dX12_rule1_120 rfl rfl ?_
            refine tz_iload_n (pc := 121) dX12_rule1_121 rfl rfl ?_
            have ro_122 : J_71 165 (126 + 9) = J 165 135 := ((q_71).1.2.2.1.2.1 135 (by decide) rfl)
            refine tz_cV (pc := 122) (m_rules1 hl n _ _ _ (by omega) (by omega) 126 (q_71).1.1.1.2.2.1 (by decide) (by omega)) vl_X12_304 dX12_rule1_122 o_164 rfl rfl (Nat.le_of_ble_eq_true rfl) ⟨(Nat.le_of_ble_eq_true rfl), (Nat.le_of_ble_eq_true rfl)⟩ rfl rfl (Nat.le_of_ble_eq_true rfl) (Nat.le_of_ble_eq_true rfl) (fun r9 J_122 hq9 => ?_)
            obtain ⟨rfl, hr_122⟩ := hq9
            exact tz_vret (pc := 125) dX12_rule1_125 rfl (Nat.le_of_ble_eq_true rfl) (Nat.le_of_ble_eq_true rfl) ⟨Nat.le_refl _, Nat.le_add_right _ _⟩ ⟨rfl, ⟨by rw [← hr_122]; exact CL.tr (CL.rl (hI.rt q_71) (by omega) (by omega) (by omega)) (CL.rt hI q_71), by rw [← hr_122]; exact ⟨(q_71).c 171 rfl, (q_71).f 44 rfl⟩, by have lt9 : g 165 135 < 8 := (by rw [← hE.2.2.2.1 135 (by decide) (by decide)]; omega); have e1 : pR1 g = (pT 8 (pNx g) 1) := (by unfold pR1; rw [nx9]); have e2 : pR2 g = (pT 8 (pT 8 (pNx g) 1).1 1) := (by unfold pR2; rw [e1, t9]); rcases x_71.bad h_79 with hc | ⟨hc, r⟩; (have e3 : pRu g = (pT 8 (pT 8 (pNx g) 1).1 1).1 := (by unfold pRu; rw [if_pos lt9, e2, if_neg (by omega)]); rw [e3]; exact Or.inl hc); (have v1 : z_33 = (pT 8 (pNx g) 1).2 := y_33 (Classical.byContradiction (fun e => absurd hc (by show ¬ (pT 8 (pT 8 (pNx g) 1).1 1).1 0 4 = 0; rw [show (pT 8 (pT 8 (pNx g) 1).1 1) = ((pT 8 (pNx g) 1).1, 0) from (by rw [← t9, toC e]; exact pT_f e)]; exact e))); have v2 := y_71 hc; have e3 : pRu g = zrl (pT 8 (pT 8 (pNx g) 1).1 1).1 126 z_33 z_71 := (by unfold pRu; rw [if_pos lt9, e2, if_pos hc, if_pos ((r.2.2 hc).1.sg (c := 59) (by decide) |>.1 (by omega)), e1, ← v1, ← v2]; exact cif_pos ((mru_em (q_71).1.1.1 (r.2.2 hc).2 (by omega) (by omega)).1 hru)); rw [e3, ← hr_122]; exact Or.inr (r.rl hc (show 0 ≤ J_71 165 (126 + 9) ∧ J_71 165 (126 + 9) < 8 by omega)))⟩⟩
          · refine tz_iconst (pc := 111) dX12_rule1_111 ?_
            refine tz_cV (pc := 112) (z_wants hl n _ _ _ (by decide) (by decide) _ x_71 (by omega) (q_71).2.1 (by decide)) vl_X12_276 dX12_rule1_112 o_164 rfl rfl (Nat.le_of_ble_eq_true rfl) ⟨(Nat.le_of_ble_eq_true rfl), (Nat.le_of_ble_eq_true rfl)⟩ rfl rfl (Nat.le_of_ble_eq_true rfl) (Nat.le_of_ble_eq_true rfl) (fun r9 J_112 hq9 => ?_)
            obtain ⟨z_112, rfl, hz_112, w_112, o_112⟩ := hq9
            obtain ⟨rfl, v_112, x_112⟩ : z_112 = 0 ∧ ¬ J_112 164 43 = 0 ∧ RelX J_112 (pFx (pT 8 (pT 8 (pNx g) 1).1 1).1 5) := by rcases o_112 with q | q; exact absurd rfl q.1; exact q.2
            have q_112 := MRT.w q_71 w_112
            have s_112 := SI.fx (c := 5) s_71
            clear o_112
            refine tz_if_neF (pc := 115) (tgt := 119) (by decide) dX12_rule1_115 (by decide) (by decide) ?_
            exact tz_vret (pc := 118) dX12_rule1_118 rfl (Nat.le_of_ble_eq_true rfl) (Nat.le_of_ble_eq_true rfl) ⟨Nat.le_refl _, Nat.le_add_right _ _⟩ ⟨rfl, ⟨CL.rt hI q_112, ⟨(q_112).c 171 rfl, (q_112).f 44 rfl⟩, by have lt9 : g 165 135 < 8 := (by rw [← hE.2.2.2.1 135 (by decide) (by decide)]; omega); have e1 : pR1 g = (pT 8 (pNx g) 1) := (by unfold pR1; rw [nx9]); have e2 : pR2 g = (pT 8 (pT 8 (pNx g) 1).1 1) := (by unfold pR2; rw [e1, t9]); have e3 : pRu g = pFx (pT 8 (pT 8 (pNx g) 1).1 1).1 5 := (by unfold pRu; rw [if_pos lt9, e2]; rcases x_71.bad h_79 with hc | ⟨hc, r⟩; rw [if_neg (by omega), pFx_1 (g := (pT 8 (pT 8 (pNx g) 1).1 1).1) (c := 5) (by omega)]; (have v1 : z_33 = (pT 8 (pNx g) 1).2 := y_33 (Classical.byContradiction (fun e => absurd hc (by show ¬ (pT 8 (pT 8 (pNx g) 1).1 1).1 0 4 = 0; rw [show (pT 8 (pT 8 (pNx g) 1).1 1) = ((pT 8 (pNx g) 1).1, 0) from (by rw [← t9, toC e]; exact pT_f e)]; exact e))); have v2 := y_71 hc; rw [if_pos hc, pFx_0 (g := (pT 8 (pT 8 (pNx g) 1).1 1).1) (c := 5) hc, if_pos ((r.2.2 hc).1.sg (c := 59) (by decide) |>.1 (by omega)), e1, ← v1, ← v2]; exact cif_neg (fun e => hru ((mru_em (q_71).1.1.1 (r.2.2 hc).2 (by omega) (by omega)).2 e)))); rw [e3]; exact x_112⟩⟩
    · refine tz_aload_n (pc := 44) dX12_rule1_44 rfl rfl ?_
      refine tz_aload_n (pc := 45) dX12_rule1_45 rfl rfl ?_
      refine tz_fI (pc := 46) (kz := 40) (v := (J_33 164 40)) dX12_rule1_46 fl_X12_249 i_164_40 rfl rfl (fun r_46 => ?_)
      refine tz_iconst (pc := 49) dX12_rule1_49 ?_
      refine tz_icmp_ne (pc := 50) (tgt := 57) dX12_rule1_50 (by decide) (by omega) (by decide) (fun h_50 => ?_) (fun h_50 => ?_)
      · refine tz_iconst (pc := 57) dX12_rule1_57 ?_
        refine tz_iconst (pc := 58) dX12_rule1_58 ?_
        refine tz_cV (pc := 59) (z_wants hl n _ _ _ (by decide) (by decide) _ x_33 (by omega) (q_33).2.1 (by decide)) vl_X12_276 dX12_rule1_59 o_164 rfl rfl (Nat.le_of_ble_eq_true rfl) ⟨(Nat.le_of_ble_eq_true rfl), (Nat.le_of_ble_eq_true rfl)⟩ rfl rfl (Nat.le_of_ble_eq_true rfl) (Nat.le_of_ble_eq_true rfl) (fun r9 J_59 hq9 => ?_)
        obtain ⟨z_59, rfl, hz_59, w_59, o_59⟩ := hq9
        obtain ⟨rfl, v_59, x_59⟩ : z_59 = 0 ∧ ¬ J_59 164 43 = 0 ∧ RelX J_59 (pFx (pT 8 (pNx g) 1).1 1) := by rcases o_59 with q | q; exact absurd rfl q.1; exact q.2
        have q_59 := MRT.w q_33 w_59
        have s_59 := SI.fx (c := 1) s_33
        clear o_59
        refine tz_if_eqT (pc := 62) (tgt := 69) (by decide) dX12_rule1_62 (by decide) (by decide) ?_
        refine tz_aload_n (pc := 69) dX12_rule1_69 rfl rfl ?_
        refine tz_iconst (pc := 70) dX12_rule1_70 ?_
        refine tz_cV (pc := 71) (z_term1 hl n _ s m_33 _ (q_59).1.1.1 (q_59).2.1 (q_59).2.2.2.2 (((q_59).f 44 rfl).trans h44) x_59 s_59) vl_X12_298 dX12_rule1_71 o_164 rfl rfl (Nat.le_of_ble_eq_true rfl) ⟨(Nat.le_of_ble_eq_true rfl), (Nat.le_of_ble_eq_true rfl)⟩ rfl rfl (Nat.le_of_ble_eq_true rfl) (Nat.le_of_ble_eq_true rfl) (fun r9 J_71 hq9 => ?_)
        obtain ⟨z_71, rfl, hz_71, m_71, w_71, h_71, x_71, y_71⟩ := hq9
        have q_71 := MRT.tr q_59 w_71
        have l_71 := w_71.1.1.2
        have s_71 := SI.t 8 _ 1 s_59
        have t9 : pTo (pT 8 (pNx g) 1).1 = (pFx (pT 8 (pNx g) 1).1 1) := toB x_33 h_41 (by omega)
        refine tz_istore_n (pc := 74) (L2 := [_, _, _]) dX12_rule1_74 rfl (by decide) rfl ?_
        refine tz_aload_n (pc := 75) dX12_rule1_75 rfl rfl ?_
        refine tz_fI (pc := 76) (kz := 43) (v := (J_71 164 43)) dX12_rule1_76 fl_X12_273 i_164_43 rfl rfl (fun r_76 => ?_)
        refine tz_if_ne (pc := 79) (tgt := 118) dX12_rule1_79 (by decide) (by omega) (fun h_79 => ?_) (fun h_79 => ?_)
        · exact tz_vret (pc := 118) dX12_rule1_118 rfl (Nat.le_of_ble_eq_true rfl) (Nat.le_of_ble_eq_true rfl) ⟨Nat.le_refl _, Nat.le_add_right _ _⟩ ⟨rfl, ⟨CL.rt hI q_71, ⟨(q_71).c 171 rfl, (q_71).f 44 rfl⟩, by have lt9 : g 165 135 < 8 := (by rw [← hE.2.2.2.1 135 (by decide) (by decide)]; omega); have e1 : pR1 g = (pT 8 (pNx g) 1) := (by unfold pR1; rw [nx9]); have e2 : pR2 g = (pT 8 (pFx (pT 8 (pNx g) 1).1 1) 1) := (by unfold pR2; rw [e1, t9]); have n9 := x_71.no (by omega); rw [show pRu g = (pT 8 (pFx (pT 8 (pNx g) 1).1 1) 1).1 from by unfold pRu; rw [if_pos lt9, e2, if_neg n9]]; exact x_71⟩⟩
        · refine tz_aload_n (pc := 82) dX12_rule1_82 rfl rfl ?_
          refine tz_aload_n (pc := 83) dX12_rule1_83 rfl rfl ?_
          refine tz_fI (pc := 84) (kz := 42) (v := (J_71 164 42)) dX12_rule1_84 fl_X12_258 i_164_42 rfl rfl (fun r_84 => ?_)
          refine tz_bipush (pc := 87) dX12_rule1_87 (by decide) ?_
          refine tz_icmp_ne (pc := 89) (tgt := 96) dX12_rule1_89 (by decide) (by omega) (by decide) (fun h_89 => ?_) (fun h_89 => ?_)
          · refine tz_iconst (pc := 96) dX12_rule1_96 ?_
            refine tz_iconst (pc := 97) dX12_rule1_97 ?_
            refine tz_cV (pc := 98) (z_wants hl n _ _ _ (by decide) (by decide) _ x_71 (by omega) (q_71).2.1 (by decide)) vl_X12_276 dX12_rule1_98 o_164 rfl rfl (Nat.le_of_ble_eq_true rfl) ⟨(Nat.le_of_ble_eq_true rfl), (Nat.le_of_ble_eq_true rfl)⟩ rfl rfl (Nat.le_of_ble_eq_true rfl) (Nat.le_of_ble_eq_true rfl) (fun r9 J_98 hq9 => ?_)
            obtain ⟨z_98, rfl, hz_98, w_98, o_98⟩ := hq9
            obtain ⟨rfl, v_98, x_98⟩ : z_98 = 0 ∧ ¬ J_98 164 43 = 0 ∧ RelX J_98 (pFx (pT 8 (pFx (pT 8 (pNx g) 1).1 1) 1).1 1) := by rcases o_98 with q | q; exact absurd rfl q.1; exact q.2
            have q_98 := MRT.w q_71 w_98
            have s_98 := SI.fx (c := 1) s_71
            clear o_98
            refine tz_if_eqT (pc := 101) (tgt := 118) (by decide) dX12_rule1_101 (by decide) (by decide) ?_
            exact tz_vret (pc := 118) dX12_rule1_118 rfl (Nat.le_of_ble_eq_true rfl) (Nat.le_of_ble_eq_true rfl) ⟨Nat.le_refl _, Nat.le_add_right _ _⟩ ⟨rfl, ⟨CL.rt hI q_98, ⟨(q_98).c 171 rfl, (q_98).f 44 rfl⟩, by have lt9 : g 165 135 < 8 := (by rw [← hE.2.2.2.1 135 (by decide) (by decide)]; omega); have e1 : pR1 g = (pT 8 (pNx g) 1) := (by unfold pR1; rw [nx9]); have e2 : pR2 g = (pT 8 (pFx (pT 8 (pNx g) 1).1 1) 1) := (by unfold pR2; rw [e1, t9]); have e3 : pRu g = pFx (pT 8 (pFx (pT 8 (pNx g) 1).1 1) 1).1 1 := (by unfold pRu; rw [if_pos lt9, e2]; rcases x_71.bad h_79 with hc | ⟨hc, r⟩; rw [if_neg (by omega), pFx_1 (g := (pT 8 (pFx (pT 8 (pNx g) 1).1 1) 1).1) (c := 1) (by omega)]; rw [if_pos hc, pFx_0 (g := (pT 8 (pFx (pT 8 (pNx g) 1).1 1) 1).1) (c := 1) hc, if_neg (by have := (r.2.2 hc).1.sg (c := 59) (by decide); omega)]); rw [e3]; exact x_98⟩⟩
          · refine tz_iconst (pc := 92) dX12_rule1_92 ?_
            refine tz_goto (pc := 93) (tgt := 97) dX12_rule1_93 (by decide) ?_
            refine tz_iconst (pc := 97) dX12_rule1_97 ?_
            refine tz_cV (pc := 98) (z_wants hl n _ _ _ (by decide) (by decide) _ x_71 (by omega) (q_71).2.1 (by decide)) vl_X12_276 dX12_rule1_98 o_164 rfl rfl (Nat.le_of_ble_eq_true rfl) ⟨(Nat.le_of_ble_eq_true rfl), (Nat.le_of_ble_eq_true rfl)⟩ rfl rfl (Nat.le_of_ble_eq_true rfl) (Nat.le_of_ble_eq_true rfl) (fun r9 J_98 hq9 => ?_)
            obtain ⟨z_98, rfl, hz_98, w_98, o_98⟩ := hq9
            obtain ⟨rfl, rfl⟩ : z_98 = 1 ∧ J_71 = J_98 := by rcases o_98 with q | q; exact q.2; exact absurd q.1 (by decide)
            clear o_98
            refine tz_if_eqF (pc := 101) (tgt := 118) (by decide) dX12_rule1_101 (by decide) (by decide) ?_
            refine tz_aload_n (pc := 104) dX12_rule1_104 rfl rfl ?_
            refine tz_aload_n (pc := 105) dX12_rule1_105 rfl rfl ?_
            refine tz_iload_n (pc := 106) dX12_rule1_106 rfl rfl ?_
            refine tz_iload_n (pc := 107) dX12_rule1_107 rfl rfl ?_
            have hb_71 : J_71 164 43 = 0 := h_79
            have hb_59 := w_71.2.2.1 hb_71
            have hb_33 := w_59.2.2.1 hb_59
            have hv1 := h_33 hb_33
            have hv2 := h_71 hb_71
            have hl9 : m_33 ≤ m_71 := by have := l_71; omega
            have hwc : ∀ k, 0 ≤ k → k < s → 1 ≤ J_71 171 (10 + k) ∧ J_71 171 (10 + k) ≤ 9 := fun k a b => by rw [(q_71).c 171 rfl]; exact hw k a b
            refine tz_cV (pc := 108) (x_isRule hl n _ _ _ (by omega) (by omega) 800 126 10 s m_71 (q_71).1.1.1 (by omega) (by omega) hwc) vl_X12_301 dX12_rule1_108 o_164 rfl rfl (Nat.le_of_ble_eq_true rfl) ⟨(Nat.le_of_ble_eq_true rfl), (Nat.le_of_ble_eq_true rfl)⟩ rfl rfl (Nat.le_of_ble_eq_true rfl) (Nat.le_of_ble_eq_true rfl) (fun r9 J_108 hq9 => ?_)
            obtain ⟨z_108, rfl, hz_108, rfl, hz_r⟩ := hq9
            rcases hz_r with ⟨rfl, hru⟩ | ⟨rfl, hru⟩
            · refine tz_iconst (pc := 111) dX12_rule1_111 ?_
              refine tz_cV (pc := 112) (z_wants hl n _ _ _ (by decide) (by decide) _ x_71 (by omega) (q_71).2.1 (by decide)) vl_X12_276 dX12_rule1_112 o_164 rfl rfl (Nat.le_of_ble_eq_true rfl) ⟨(Nat.le_of_ble_eq_true rfl), (Nat.le_of_ble_eq_true rfl)⟩ rfl rfl (Nat.le_of_ble_eq_true rfl) (Nat.le_of_ble_eq_true rfl) (fun r9 J_112 hq9 => ?_)
              obtain ⟨z_112, rfl, hz_112, w_112, o_112⟩ := hq9
              obtain ⟨rfl, rfl⟩ : z_112 = 1 ∧ J_71 = J_112 := by rcases o_112 with q | q; exact q.2; exact absurd q.1 (by decide)
              clear o_112
              refine tz_if_neT (pc := 115) (tgt := 119) (by decide) dX12_rule1_115 (by decide) (by decide) ?_
              refine tz_aload_n (pc := 119) dX12_rule1_119 rfl rfl ?_
              refine tz_iload_n (pc := 120) dX12_rule1_120 rfl rfl ?_
              refine tz_iload_n (pc := 121) dX12_rule1_121 rfl rfl ?_
              have ro_122 : J_71 165 (126 + 9) = J 165 135 := ((q_71).1.2.2.1.2.1 135 (by decide) rfl)
              refine tz_cV (pc := 122) (m_rules1 hl n _ _ _ (by omega) (by omega) 126 (q_71).1.1.1.2.2.1 (by decide) (by omega)) vl_X12_304 dX12_rule1_122 o_164 rfl rfl (Nat.le_of_ble_eq_true rfl) ⟨(Nat.le_of_ble_eq_true rfl), (Nat.le_of_ble_eq_true rfl)⟩ rfl rfl (Nat.le_of_ble_eq_true rfl) (Nat.le_of_ble_eq_true rfl) (fun r9 J_122 hq9 => ?_)
              obtain ⟨rfl, hr_122⟩ := hq9
              exact tz_vret (pc := 125) dX12_rule1_125 rfl (Nat.le_of_ble_eq_true rfl) (Nat.le_of_ble_eq_true rfl) ⟨Nat.le_refl _, Nat.le_add_right _ _⟩ ⟨rfl, ⟨by rw [← hr_122]; exact CL.tr (CL.rl (hI.rt q_71) (by omega) (by omega) (by omega)) (CL.rt hI q_71), by rw [← hr_122]; exact ⟨(q_71).c 171 rfl, (q_71).f 44 rfl⟩, by have lt9 : g 165 135 < 8 := (by rw [← hE.2.2.2.1 135 (by decide) (by decide)]; omega); have e1 : pR1 g = (pT 8 (pNx g) 1) := (by unfold pR1; rw [nx9]); have e2 : pR2 g = (pT 8 (pFx (pT 8 (pNx g) 1).1 1) 1) := (by unfold pR2; rw [e1, t9]); rcases x_71.bad h_79 with hc | ⟨hc, r⟩; (have e3 : pRu g = (pT 8 (pFx (pT 8 (pNx g) 1).1 1) 1).1 := (by unfold pRu; rw [if_pos lt9, e2, if_neg (by omega)]); rw [e3]; exact Or.inl hc); (have v1 : z_33 = (pT 8 (pNx g) 1).2 := y_33 (Classical.byContradiction (fun e => absurd hc (by show ¬ (pT 8 (pFx (pT 8 (pNx g) 1).1 1) 1).1 0 4 = 0; rw [show (pT 8 (pFx (pT 8 (pNx g) 1).1 1) 1) = ((pT 8 (pNx g) 1).1, 0) from (by rw [← t9, toC e]; exact pT_f e)]; exact e))); have v2 := y_71 hc; have e3 : pRu g = zrl (pT 8 (pFx (pT 8 (pNx g) 1).1 1) 1).1 126 z_33 z_71 := (by unfold pRu; rw [if_pos lt9, e2, if_pos hc, if_pos ((r.2.2 hc).1.sg (c := 59) (by decide) |>.1 (by omega)), e1, ← v1, ← v2]; exact cif_pos ((mru_em (q_71).1.1.1 (r.2.2 hc).2 (by omega) (by omega)).1 hru)); rw [e3, ← hr_122]; exact Or.inr (r.rl hc (show 0 ≤ J_71 165 (126 + 9) ∧ J_71 165 (126 + 9) < 8 by omega)))⟩⟩
            · refine tz_iconst (pc := 111) dX12_rule1_111 ?_
              refine tz_cV (pc := 112) (z_wants hl n _ _ _ (by decide) (by decide) _ x_71 (by omega) (q_71).2.1 (by decide)) vl_X12_276 dX12_rule1_112 o_164 rfl rfl (Nat.le_of_ble_eq_true rfl) ⟨(Nat.le_of_ble_eq_true rfl), (Nat.le_of_ble_eq_true rfl)⟩ rfl rfl (Nat.le_of_ble_eq_true rfl) (Nat.le_of_ble_eq_true rfl) (fun r9 J_112 hq9 => ?_)
              obtain ⟨z_112, rfl, hz_112, w_112, o_112⟩ := hq9
              obtain ⟨rfl, v_112, x_112⟩ : z_112 = 0 ∧ ¬ J_112 164 43 = 0 ∧ RelX J_112 (pFx (pT 8 (pFx (pT 8 (pNx g) 1).1 1) 1).1 5) := by rcases o_112 with q | q; exact absurd rfl q.1; exact q.2
              have q_112 := MRT.w q_71 w_112
              have s_112 := SI.fx (c := 5) s_71
              clear o_112
              refine tz_if_neF (pc := 115) (tgt := 119) (by decide) dX12_rule1_115 (by decide) (by decide) ?_
              exact tz_vret (pc := 118) dX12_rule1_118 rfl (Nat.le_of_ble_eq_true rfl) (Nat.le_of_ble_eq_true rfl) ⟨Nat.le_refl _, Nat.le_add_right _ _⟩ ⟨rfl, ⟨CL.rt hI q_112, ⟨(q_112).c 171 rfl, (q_112).f 44 rfl⟩, by have lt9 : g 165 135 < 8 := (by rw [← hE.2.2.2.1 135 (by decide) (by decide)]; omega); have e1 : pR1 g = (pT 8 (pNx g) 1) := (by unfold pR1; rw [nx9]); have e2 : pR2 g = (pT 8 (pFx (pT 8 (pNx g) 1).1 1) 1) := (by unfold pR2; rw [e1, t9]); have e3 : pRu g = pFx (pT 8 (pFx (pT 8 (pNx g) 1).1 1) 1).1 5 := (by unfold pRu; rw [if_pos lt9, e2]; rcases x_71.bad h_79 with hc | ⟨hc, r⟩; rw [if_neg (by omega), pFx_1 (g := (pT 8 (pFx (pT 8 (pNx g) 1).1 1) 1).1) (c := 5) (by omega)]; (have v1 : z_33 = (pT 8 (pNx g) 1).2 := y_33 (Classical.byContradiction (fun e => absurd hc (by show ¬ (pT 8 (pFx (pT 8 (pNx g) 1).1 1) 1).1 0 4 = 0; rw [show (pT 8 (pFx (pT 8 (pNx g) 1).1 1) 1) = ((pT 8 (pNx g) 1).1, 0) from (by rw [← t9, toC e]; exact pT_f e)]; exact e))); have v2 := y_71 hc; rw [if_pos hc, pFx_0 (g := (pT 8 (pFx (pT 8 (pNx g) 1).1 1) 1).1) (c := 5) hc, if_pos ((r.2.2 hc).1.sg (c := 59) (by decide) |>.1 (by omega)), e1, ← v1, ← v2]; exact cif_neg (fun e => hru ((mru_em (q_71).1.1.1 (r.2.2 hc).2 (by omega) (by omega)).2 e)))); rw [e3]; exact x_112⟩⟩
      · refine tz_iconst (pc := 53) dX12_rule1_53 ?_
        refine tz_goto (pc := 54) (tgt := 58) dX12_rule1_54 (by decide) ?_
        refine tz_iconst (pc := 58) dX12_rule1_58 ?_
        refine tz_cV (pc := 59) (z_wants hl n _ _ _ (by decide) (by decide) _ x_33 (by omega) (q_33).2.1 (by decide)) vl_X12_276 dX12_rule1_59 o_164 rfl rfl (Nat.le_of_ble_eq_true rfl) ⟨(Nat.le_of_ble_eq_true rfl), (Nat.le_of_ble_eq_true rfl)⟩ rfl rfl (Nat.le_of_ble_eq_true rfl) (Nat.le_of_ble_eq_true rfl) (fun r9 J_59 hq9 => ?_)
        obtain ⟨z_59, rfl, hz_59, w_59, o_59⟩ := hq9
        obtain ⟨rfl, rfl⟩ : z_59 = 1 ∧ J_33 = J_59 := by rcases o_59 with q | q; exact q.2; exact absurd q.1 (by decide)
        clear o_59
        refine tz_if_eqF (pc := 62) (tgt := 69) (by decide) dX12_rule1_62 (by decide) (by decide) ?_
        refine tz_aload_n (pc := 65) dX12_rule1_65 rfl rfl ?_
        refine tz_cV (pc := 66) (z_go hl n _ _ x_33 (by omega) s_33 (q_33).2.1) vl_X12_280 dX12_rule1_66 o_164 rfl rfl (Nat.le_of_ble_eq_true rfl) ⟨(Nat.le_of_ble_eq_true rfl), (Nat.le_of_ble_eq_true rfl)⟩ rfl rfl (Nat.le_of_ble_eq_true rfl) (Nat.le_of_ble_eq_true rfl) (fun r9 J_66 hq9 => ?_)
        obtain ⟨rfl, w_66, x_66⟩ := hq9
        have q_66 := MRT.w q_33 w_66
        have s_66 := SI.nx s_33
        refine tz_aload_n (pc := 69) dX12_rule1_69 rfl rfl ?_
        refine tz_iconst (pc := 70) dX12_rule1_70 ?_
        refine tz_cV (pc := 71) (z_term1 hl n _ s m_33 _ (q_66).1.1.1 (q_66).2.1 (q_66).2.2.2.2 (((q_66).f 44 rfl).trans h44) x_66 s_66) vl_X12_298 dX12_rule1_71 o_164 rfl rfl (Nat.le_of_ble_eq_true rfl) ⟨(Nat.le_of_ble_eq_true rfl), (Nat.le_of_ble_eq_true rfl)⟩ rfl rfl (Nat.le_of_ble_eq_true rfl) (Nat.le_of_ble_eq_true rfl) (fun r9 J_71 hq9 => ?_)
        obtain ⟨z_71, rfl, hz_71, m_71, w_71, h_71, x_71, y_71⟩ := hq9
        have q_71 := MRT.tr q_66 w_71
        have l_71 := w_71.1.1.2
        have s_71 := SI.t 8 _ 1 s_66
        have t9 : pTo (pT 8 (pNx g) 1).1 = (pNx (pT 8 (pNx g) 1).1) := toA x_33 h_41 (by omega)
        refine tz_istore_n (pc := 74) (L2 := [_, _, _]) dX12_rule1_74 rfl (by decide) rfl ?_
        refine tz_aload_n (pc := 75) dX12_rule1_75 rfl rfl ?_
        refine tz_fI (pc := 76) (kz := 43) (v := (J_71 164 43)) dX12_rule1_76 fl_X12_273 i_164_43 rfl rfl (fun r_76 => ?_)
        refine tz_if_ne (pc := 79) (tgt := 118) dX12_rule1_79 (by decide) (by omega) (fun h_79 => ?_) (fun h_79 => ?_)
        · exact tz_vret (pc := 118) dX12_rule1_118 rfl (Nat.le_of_ble_eq_true rfl) (Nat.le_of_ble_eq_true rfl) ⟨Nat.le_refl _, Nat.le_add_right _ _⟩ ⟨rfl, ⟨CL.rt hI q_71, ⟨(q_71).c 171 rfl, (q_71).f 44 rfl⟩, by have lt9 : g 165 135 < 8 := (by rw [← hE.2.2.2.1 135 (by decide) (by decide)]; omega); have e1 : pR1 g = (pT 8 (pNx g) 1) := (by unfold pR1; rw [nx9]); have e2 : pR2 g = (pT 8 (pNx (pT 8 (pNx g) 1).1) 1) := (by unfold pR2; rw [e1, t9]); have n9 := x_71.no (by omega); rw [show pRu g = (pT 8 (pNx (pT 8 (pNx g) 1).1) 1).1 from by unfold pRu; rw [if_pos lt9, e2, if_neg n9]]; exact x_71⟩⟩
        · refine tz_aload_n (pc := 82) dX12_rule1_82 rfl rfl ?_
          refine tz_aload_n (pc := 83) dX12_rule1_83 rfl rfl ?_
          refine tz_fI (pc := 84) (kz := 42) (v := (J_71 164 42)) dX12_rule1_84 fl_X12_258 i_164_42 rfl rfl (fun r_84 => ?_)
          refine tz_bipush (pc := 87) dX12_rule1_87 (by decide) ?_
          refine tz_icmp_ne (pc := 89) (tgt := 96) dX12_rule1_89 (by decide) (by omega) (by decide) (fun h_89 => ?_) (fun h_89 => ?_)
          · refine tz_iconst (pc := 96) dX12_rule1_96 ?_
            refine tz_iconst (pc := 97) dX12_rule1_97 ?_
            refine tz_cV (pc := 98) (z_wants hl n _ _ _ (by decide) (by decide) _ x_71 (by omega) (q_71).2.1 (by decide)) vl_X12_276 dX12_rule1_98 o_164 rfl rfl (Nat.le_of_ble_eq_true rfl) ⟨(Nat.le_of_ble_eq_true rfl), (Nat.le_of_ble_eq_true rfl)⟩ rfl rfl (Nat.le_of_ble_eq_true rfl) (Nat.le_of_ble_eq_true rfl) (fun r9 J_98 hq9 => ?_)
            obtain ⟨z_98, rfl, hz_98, w_98, o_98⟩ := hq9
            obtain ⟨rfl, v_98, x_98⟩ : z_98 = 0 ∧ ¬ J_98 164 43 = 0 ∧ RelX J_98 (pFx (pT 8 (pNx (pT 8 (pNx g) 1).1) 1).1 1) := by rcases o_98 with q | q; exact absurd rfl q.1; exact q.2
            have q_98 := MRT.w q_71 w_98
            have s_98 := SI.fx (c := 1) s_71
            clear o_98
            refine tz_if_eqT (pc := 101) (tgt := 118) (by decide) dX12_rule1_101 (by decide) (by decide) ?_
            exact tz_vret (pc := 118) dX12_rule1_118 rfl (Nat.le_of_ble_eq_true rfl) (Nat.le_of_ble_eq_true rfl) ⟨Nat.le_refl _, Nat.le_add_right _ _⟩ ⟨rfl, ⟨CL.rt hI q_98, ⟨(q_98).c 171 rfl, (q_98).f 44 rfl⟩, by have lt9 : g 165 135 < 8 := (by rw [← hE.2.2.2.1 135 (by decide) (by decide)]; omega); have e1 : pR1 g = (pT 8 (pNx g) 1) := (by unfold pR1; rw [nx9]); have e2 : pR2 g = (pT 8 (pNx (pT 8 (pNx g) 1).1) 1) := (by unfold pR2; rw [e1, t9]); have e3 : pRu g = pFx (pT 8 (pNx (pT 8 (pNx g) 1).1) 1).1 1 := (by unfold pRu; rw [if_pos lt9, e2]; rcases x_71.bad h_79 with hc | ⟨hc, r⟩; rw [if_neg (by omega), pFx_1 (g := (pT 8 (pNx (pT 8 (pNx g) 1).1) 1).1) (c := 1) (by omega)]; rw [if_pos hc, pFx_0 (g := (pT 8 (pNx (pT 8 (pNx g) 1).1) 1).1) (c := 1) hc, if_neg (by have := (r.2.2 hc).1.sg (c := 59) (by decide); omega)]); rw [e3]; exact x_98⟩⟩
          · refine tz_iconst (pc := 92) dX12_rule1_92 ?_
            refine tz_goto (pc := 93) (tgt := 97) dX12_rule1_93 (by decide) ?_
            refine tz_iconst (pc := 97) dX12_rule1_97 ?_
            refine tz_cV (pc := 98) (z_wants hl n _ _ _ (by decide) (by decide) _ x_71 (by omega) (q_71).2.1 (by decide)) vl_X12_276 dX12_rule1_98 o_164 rfl rfl (Nat.le_of_ble_eq_true rfl) ⟨(Nat.le_of_ble_eq_true rfl), (Nat.le_of_ble_eq_true rfl)⟩ rfl rfl (Nat.le_of_ble_eq_true rfl) (Nat.le_of_ble_eq_true rfl) (fun r9 J_98 hq9 => ?_)
            obtain ⟨z_98, rfl, hz_98, w_98, o_98⟩ := hq9
            obtain ⟨rfl, rfl⟩ : z_98 = 1 ∧ J_71 = J_98 := by rcases o_98 with q | q; exact q.2; exact absurd q.1 (by decide)
            clear o_98
            refine tz_if_eqF (pc := 101) (tgt := 118) (by decide) dX12_rule1_101 (by decide) (by decide) ?_
            refine tz_aload_n (pc := 104) dX12_rule1_104 rfl rfl ?_
            refine tz_aload_n (pc := 105) dX12_rule1_105 rfl rfl ?_
            refine tz_iload_n (pc := 106) dX12_rule1_106 rfl rfl ?_
            refine tz_iload_n (pc := 107) dX12_rule1_107 rfl rfl ?_
            have hb_71 : J_71 164 43 = 0 := h_79
            have hb_66 := w_71.2.2.1 hb_71
            have hb_33 := w_66.2.2.1 hb_66
            have hv1 := h_33 hb_33
            have hv2 := h_71 hb_71
            have hl9 : m_33 ≤ m_71 := by have := l_71; omega
            have hwc : ∀ k, 0 ≤ k → k < s → 1 ≤ J_71 171 (10 + k) ∧ J_71 171 (10 + k) ≤ 9 := fun k a b => by rw [(q_71).c 171 rfl]; exact hw k a b
            refine tz_cV (pc := 108) (x_isRule hl n _ _ _ (by omega) (by omega) 800 126 10 s m_71 (q_71).1.1.1 (by omega) (by omega) hwc) vl_X12_301 dX12_rule1_108 o_164 rfl rfl (Nat.le_of_ble_eq_true rfl) ⟨(Nat.le_of_ble_eq_true rfl), (Nat.le_of_ble_eq_true rfl)⟩ rfl rfl (Nat.le_of_ble_eq_true rfl) (Nat.le_of_ble_eq_true rfl) (fun r9 J_108 hq9 => ?_)
            obtain ⟨z_108, rfl, hz_108, rfl, hz_r⟩ := hq9
            rcases hz_r with ⟨rfl, hru⟩ | ⟨rfl, hru⟩
            · refine tz_iconst (pc := 111) dX12_rule1_111 ?_
              refine tz_cV (pc := 112) (z_wants hl n _ _ _ (by decide) (by decide) _ x_71 (by omega) (q_71).2.1 (by decide)) vl_X12_276 dX12_rule1_112 o_164 rfl rfl (Nat.le_of_ble_eq_true rfl) ⟨(Nat.le_of_ble_eq_true rfl), (Nat.le_of_ble_eq_true rfl)⟩ rfl rfl (Nat.le_of_ble_eq_true rfl) (Nat.le_of_ble_eq_true rfl) (fun r9 J_112 hq9 => ?_)
              obtain ⟨z_112, rfl, hz_112, w_112, o_112⟩ := hq9
              obtain ⟨rfl, rfl⟩ : z_112 = 1 ∧ J_71 = J_112 := by rcases o_112 with q | q; exact q.2; exact absurd q.1 (by decide)
              clear o_112
              refine tz_if_neT (pc := 115) (tgt := 119) (by decide) dX12_rule1_115 (by decide) (by decide) ?_
              refine tz_aload_n (pc := 119) dX12_rule1_119 rfl rfl ?_
              refine tz_iload_n (pc := 120) dX12_rule1_120 rfl rfl ?_
              refine tz_iload_n (pc := 121) dX12_rule1_121 rfl rfl ?_
              have ro_122 : J_71 165 (126 + 9) = J 165 135 := ((q_71).1.2.2.1.2.1 135 (by decide) rfl)
              refine tz_cV (pc := 122) (m_rules1 hl n _ _ _ (by omega) (by omega) 126 (q_71).1.1.1.2.2.1 (by decide) (by omega)) vl_X12_304 dX12_rule1_122 o_164 rfl rfl (Nat.le_of_ble_eq_true rfl) ⟨(Nat.le_of_ble_eq_true rfl), (Nat.le_of_ble_eq_true rfl)⟩ rfl rfl (Nat.le_of_ble_eq_true rfl) (Nat.le_of_ble_eq_true rfl) (fun r9 J_122 hq9 => ?_)
              obtain ⟨rfl, hr_122⟩ := hq9
              exact tz_vret (pc := 125) dX12_rule1_125 rfl (Nat.le_of_ble_eq_true rfl) (Nat.le_of_ble_eq_true rfl) ⟨Nat.le_refl _, Nat.le_add_right _ _⟩ ⟨rfl, ⟨by rw [← hr_122]; exact CL.tr (CL.rl (hI.rt q_71) (by omega) (by omega) (by omega)) (CL.rt hI q_71), by rw [← hr_122]; exact ⟨(q_71).c 171 rfl, (q_71).f 44 rfl⟩, by have lt9 : g 165 135 < 8 := (by rw [← hE.2.2.2.1 135 (by decide) (by decide)]; omega); have e1 : pR1 g = (pT 8 (pNx g) 1) := (by unfold pR1; rw [nx9]); have e2 : pR2 g = (pT 8 (pNx (pT 8 (pNx g) 1).1) 1) := (by unfold pR2; rw [e1, t9]); rcases x_71.bad h_79 with hc | ⟨hc, r⟩; (have e3 : pRu g = (pT 8 (pNx (pT 8 (pNx g) 1).1) 1).1 := (by unfold pRu; rw [if_pos lt9, e2, if_neg (by omega)]); rw [e3]; exact Or.inl hc); (have v1 : z_33 = (pT 8 (pNx g) 1).2 := y_33 (Classical.byContradiction (fun e => absurd hc (by show ¬ (pT 8 (pNx (pT 8 (pNx g) 1).1) 1).1 0 4 = 0; rw [show (pT 8 (pNx (pT 8 (pNx g) 1).1) 1) = ((pT 8 (pNx g) 1).1, 0) from (by rw [← t9, toC e]; exact pT_f e)]; exact e))); have v2 := y_71 hc; have e3 : pRu g = zrl (pT 8 (pNx (pT 8 (pNx g) 1).1) 1).1 126 z_33 z_71 := (by unfold pRu; rw [if_pos lt9, e2, if_pos hc, if_pos ((r.2.2 hc).1.sg (c := 59) (by decide) |>.1 (by omega)), e1, ← v1, ← v2]; exact cif_pos ((mru_em (q_71).1.1.1 (r.2.2 hc).2 (by omega) (by omega)).1 hru)); rw [e3, ← hr_122]; exact Or.inr (r.rl hc (show 0 ≤ J_71 165 (126 + 9) ∧ J_71 165 (126 + 9) < 8 by omega)))⟩⟩
            · refine tz_iconst (pc := 111) dX12_rule1_111 ?_
              refine tz_cV (pc := 112) (z_wants hl n _ _ _ (by decide) (by decide) _ x_71 (by omega) (q_71).2.1 (by decide)) vl_X12_276 dX12_rule1_112 o_164 rfl rfl (Nat.le_of_ble_eq_true rfl) ⟨(Nat.le_of_ble_eq_true rfl), (Nat.le_of_ble_eq_true rfl)⟩ rfl rfl (Nat.le_of_ble_eq_true rfl) (Nat.le_of_ble_eq_true rfl) (fun r9 J_112 hq9 => ?_)
              obtain ⟨z_112, rfl, hz_112, w_112, o_112⟩ := hq9
              obtain ⟨rfl, v_112, x_112⟩ : z_112 = 0 ∧ ¬ J_112 164 43 = 0 ∧ RelX J_112 (pFx (pT 8 (pNx (pT 8 (pNx g) 1).1) 1).1 5) := by rcases o_112 with q | q; exact absurd rfl q.1; exact q.2
              have q_112 := MRT.w q_71 w_112
              have s_112 := SI.fx (c := 5) s_71
              clear o_112
              refine tz_if_neF (pc := 115) (tgt := 119) (by decide) dX12_rule1_115 (by decide) (by decide) ?_
              exact tz_vret (pc := 118) dX12_rule1_118 rfl (Nat.le_of_ble_eq_true rfl) (Nat.le_of_ble_eq_true rfl) ⟨Nat.le_refl _, Nat.le_add_right _ _⟩ ⟨rfl, ⟨CL.rt hI q_112, ⟨(q_112).c 171 rfl, (q_112).f 44 rfl⟩, by have lt9 : g 165 135 < 8 := (by rw [← hE.2.2.2.1 135 (by decide) (by decide)]; omega); have e1 : pR1 g = (pT 8 (pNx g) 1) := (by unfold pR1; rw [nx9]); have e2 : pR2 g = (pT 8 (pNx (pT 8 (pNx g) 1).1) 1) := (by unfold pR2; rw [e1, t9]); have e3 : pRu g = pFx (pT 8 (pNx (pT 8 (pNx g) 1).1) 1).1 5 := (by unfold pRu; rw [if_pos lt9, e2]; rcases x_71.bad h_79 with hc | ⟨hc, r⟩; rw [if_neg (by omega), pFx_1 (g := (pT 8 (pNx (pT 8 (pNx g) 1).1) 1).1) (c := 5) (by omega)]; (have v1 : z_33 = (pT 8 (pNx g) 1).2 := y_33 (Classical.byContradiction (fun e => absurd hc (by show ¬ (pT 8 (pNx (pT 8 (pNx g) 1).1) 1).1 0 4 = 0; rw [show (pT 8 (pNx (pT 8 (pNx g) 1).1) 1) = ((pT 8 (pNx g) 1).1, 0) from (by rw [← t9, toC e]; exact pT_f e)]; exact e))); have v2 := y_71 hc; rw [if_pos hc, pFx_0 (g := (pT 8 (pNx (pT 8 (pNx g) 1).1) 1).1) (c := 5) hc, if_pos ((r.2.2 hc).1.sg (c := 59) (by decide) |>.1 (by omega)), e1, ← v1, ← v2]; exact cif_neg (fun e => hru ((mru_em (q_71).1.1.1 (r.2.2 hc).2 (by omega) (by omega)).2 e)))); rw [e3]; exact x_112⟩⟩

