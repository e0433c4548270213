/-! ===== the whole text: the reference follows the reading ===== -/
theorem cl_n {g : zJ} (h : ¬ g 0 3 = 2) : pCl g = pF g 1 := by
  unfold pCl
  rw [cif_neg (fun p => h p.1), cif_neg (fun p => h p.1), cif_neg (fun p => h p.1), cif_neg (fun p => h p.1), cif_neg (fun p => h p.1)]
theorem cl_k {g : zJ} {z : Int} (h : g 0 3 = 2) (w : WD (g 1) (g 0 1) (g 0 2) z) : (z = 0 → pCl g = pSy g) ∧ (z = 1 → pCl g = (pR1 g).1) ∧ (z = 2 → pCl g = pRu g) ∧ (z = 3 → pCl g = pEn g) ∧ (z = 4 → pCl g = pRo g) ∧ (¬ (0 ≤ z ∧ z ≤ 4) → pCl g = pF g 1) := by
  unfold WD at w
  unfold pCl
  rcases w with ⟨m0, e⟩ | ⟨n0, ⟨m0, e⟩ | ⟨n1, ⟨m0, e⟩ | ⟨n2, ⟨m0, e⟩ | ⟨n3, ⟨m0, e⟩ | ⟨n4, r⟩⟩⟩⟩⟩
  · rw [cif_pos ⟨h, m0⟩]
    exact ⟨fun _ => rfl, fun q => by omega, fun q => by omega, fun q => by omega, fun q => by omega, fun q => by omega⟩
  · rw [cif_neg (fun p => n0 p.2), cif_pos ⟨h, m0⟩]
    exact ⟨fun q => by omega, fun _ => rfl, fun q => by omega, fun q => by omega, fun q => by omega, fun q => by omega⟩
  · rw [cif_neg (fun p => n0 p.2), cif_neg (fun p => n1 p.2), cif_pos ⟨h, m0⟩]
    exact ⟨fun q => by omega, fun q => by omega, fun _ => rfl, fun q => by omega, fun q => by omega, fun q => by omega⟩
  · rw [cif_neg (fun p => n0 p.2), cif_neg (fun p => n1 p.2), cif_neg (fun p => n2 p.2), cif_pos ⟨h, m0⟩]
    exact ⟨fun q => by omega, fun q => by omega, fun q => by omega, fun _ => rfl, fun q => by omega, fun q => by omega⟩
  · rw [cif_neg (fun p => n0 p.2), cif_neg (fun p => n1 p.2), cif_neg (fun p => n2 p.2), cif_neg (fun p => n3 p.2), cif_pos ⟨h, m0⟩]
    exact ⟨fun q => by omega, fun q => by omega, fun q => by omega, fun q => by omega, fun _ => rfl, fun q => by omega⟩
  · rw [cif_neg (fun p => n0 p.2), cif_neg (fun p => n1 p.2), cif_neg (fun p => n2 p.2), cif_neg (fun p => n3 p.2), cif_neg (fun p => n4 p.2)]
    have hz : z = 5 ∨ z = -1 := by rcases r with r | r; exact Or.inl r.2; exact Or.inr r.2
    exact ⟨fun q => by omega, fun q => by omega, fun q => by omega, fun q => by omega, fun q => by omega, fun _ => rfl⟩
theorem TKM.wd {J g : zJ} (h : TKM J (g 1) (g 0 1) (g 0 3) (g 0 2)) (h1 : J 164 38 = 1) : g 0 3 = 2 ∧ WD (g 1) (g 0 1) (g 0 2) (J 164 40) := by
  obtain ⟨_, _, h3⟩ := h
  rcases h3 with q | q | q | q | q
  · omega
  · exact ⟨q.1, q.2.2.2.2⟩
  · omega
  · omega
  · omega
def WOK (J : zJ) : Prop := ∀ k, 0 ≤ k → k < J 164 44 → 1 ≤ J 171 (10 + k) ∧ J 171 (10 + k) ≤ 9
theorem WOK.of {J' J : zJ} (h : WOK J) (e : J' 171 = J 171 ∧ J' 164 44 = J 164 44) : WOK J' := by
  unfold WOK
  rw [e.1, e.2]
  exact h
theorem WOK.sy {J' J : zJ} (h : WOK J) (x : RSy J' J) (u : J' 164 44 = J 164 44 + 1 → 1 ≤ J' 171 (10 + J 164 44) ∧ J' 171 (10 + J 164 44) ≤ 9) : WOK J' := fun k a b => by
  have h1 := x.2.2.2.2.1
  by_cases e : k = J 164 44
  · subst e
    exact u (by omega)
  · rw [(x.2.2.2.2.2.2.1 (10 + k) (by omega)).2.2]
    exact h k a (by omega)
set_option maxHeartbeats 4000000 in
set_option maxRecDepth 100000 in
theorem y_clause1 {l : Launch} {G : tb_G} (hl : l.stackTraces = false) (n : Nat) (J : zJ)   (s m : Int) (g : zJ) (hI : TI J s m) (hw : ∀ k, 0 ≤ k → k < s → 1 ≤ J 171 (10 + k) ∧ J 171 (10 + k) ≤ 9) (hR : RelM J g) (h9 : g 0 4 = 0) (hS : SI g) : tz_Ok l G M_X12_clause1 22 0 0 [.ref 164] n J (zqv (fun J' => CL J' J ∧ WOK J' ∧ RelX J' (pCl g))) zN := by
  refine tz_Ok.of hl (by decide +kernel) rfl (tb_c1 rfl) (Nat.le_of_ble_eq_true rfl) ?_
  show tz_At l G M_X12_clause1 (tb_rm 22 0 0) none (tb_ZM G 0 0 (zQ n 0 (zqv (fun J' => CL J' J ∧ WOK J' ∧ RelX J' (pCl g)))) (zX n 0 zN)) 0 0 n J 0 [some (.ref 164), none] []
  obtain ⟨hM, h44, hP, hu, hL, h66⟩ := id hI
  have hT := hM.told
  have g0 := MRT.rf hM hP hu
  clear hu
  have hL9 : 0 ≤ J 165 135 ∧ J 165 135 ≤ 8 := hL.1.1
  have hL8 : 0 ≤ J 165 152 ∧ J 165 152 ≤ 12 := hL.2.2.1.1
  have hX : RelX J g := Or.inr hR
  have hb0 : J 164 43 = 0 := hR.1.trans h9
  have hE := (hR.2.2 h9).2
  have nx9 : pNx g = pN g := by unfold pNx; rw [if_pos h9]
  have fx9 : ∀ c, pFx g c = pF g c := fun c => by unfold pFx; rw [if_pos h9]
  have hT9 := (hR.2.2 h9).1
  have hW : WOK J := fun k a b => hw k a (by omega)
  refine tz_aload_n (pc := 0) dX12_clause1_0 rfl rfl ?_
  refine tz_fI (pc := 1) (kz := 38) (v := (J 164 38)) dX12_clause1_1 fl_X12_261 i_164_38 rfl rfl (fun r_1 => ?_)
  refine tz_iconst (pc := 4) dX12_clause1_4 ?_
  refine tz_icmp_ne (pc := 5) (tgt := 15) dX12_clause1_5 (by decide) (by omega) (by decide) (fun h_5 => ?_) (fun h_5 => ?_)
  · refine tz_iconst (pc := 15) dX12_clause1_15 ?_
    refine tz_istore_n (pc := 16) (L2 := [_, _]) dX12_clause1_16 rfl (by decide) rfl ?_
    refine tz_iload_n (pc := 17) dX12_clause1_17 rfl rfl ?_
    refine tz_if_neT (pc := 18) (tgt := 28) (by decide) dX12_clause1_18 (by decide) (by decide) ?_
    refine tz_iload_n (pc := 28) dX12_clause1_28 rfl rfl ?_
    refine tz_iconst (pc := 29) dX12_clause1_29 ?_
    refine tz_icmp_neT (pc := 30) (tgt := 46) (by decide) dX12_clause1_30 (by decide) (by decide) (by decide) ?_
    refine tz_iload_n (pc := 46) dX12_clause1_46 rfl rfl ?_
    refine tz_iconst (pc := 47) dX12_clause1_47 ?_
    refine tz_icmp_neT (pc := 48) (tgt := 58) (by decide) dX12_clause1_48 (by decide) (by decide) (by decide) ?_
    refine tz_iload_n (pc := 58) dX12_clause1_58 rfl rfl ?_
    refine tz_iconst (pc := 59) dX12_clause1_59 ?_
    refine tz_icmp_neT (pc := 60) (tgt := 70) (by decide) dX12_clause1_60 (by decide) (by decide) (by decide) ?_
    refine tz_aload_n (pc := 70) dX12_clause1_70 rfl rfl ?_
    refine tz_iload_n (pc := 71) dX12_clause1_71 rfl rfl ?_
    refine tz_iconst (pc := 72) dX12_clause1_72 ?_
    refine tz_icmp_neT (pc := 73) (tgt := 80) (by decide) dX12_clause1_73 (by decide) (by decide) (by decide) ?_
    refine tz_iconst (pc := 80) dX12_clause1_80 ?_
    refine tz_iconst (pc := 81) dX12_clause1_81 ?_
    refine tz_cV (pc := 82) (z_wants hl n _ _ _ (by decide) (by decide) _ hX hb0 (g0).2.1 (by decide)) vl_X12_276 dX12_clause1_82 o_164 rfl rfl (Nat.le_of_ble_eq_true rfl) ⟨(Nat.le_of_ble_eq_true rfl), (Nat.le_of_ble_eq_true rfl)⟩ rfl rfl (Nat.le_of_ble_eq_true rfl) (Nat.le_of_ble_eq_true rfl) (fun r9 J_82 hq9 => ?_)
    obtain ⟨z_82, rfl, hz_82, w_82, o_82⟩ := hq9
    obtain ⟨rfl, v_82, x_82⟩ : z_82 = 0 ∧ ¬ J_82 164 43 = 0 ∧ RelX J_82 (pFx g 1) := by rcases o_82 with q | q; exact absurd rfl q.1; exact q.2
    have q_82 := MRT.w g0 w_82
    have s_82 := SI.fx (c := 1) hS
    clear o_82
    refine tz_if_eqT (pc := 85) (tgt := 92) (by decide) dX12_clause1_85 (by decide) (by decide) ?_
    exact tz_vret (pc := 92) dX12_clause1_92 rfl (Nat.le_of_ble_eq_true rfl) (Nat.le_of_ble_eq_true rfl) ⟨Nat.le_refl _, Nat.le_add_right _ _⟩ ⟨rfl, ⟨CL.rt hI q_82, hW.of ⟨(q_82).c 171 rfl, (q_82).f 44 rfl⟩, by rw [show pCl g = pF g 1 from (by by_cases h38 : J 164 38 = 1; (have kw := cl_k (hT9.wd h38).1 (hT9.wd h38).2; exact kw.2.2.2.2.2 (by omega)); exact cl_n (by have := hT9.so; omega)), ← fx9]; exact x_82⟩⟩
  · refine tz_aload_n (pc := 8) dX12_clause1_8 rfl rfl ?_
    refine tz_fI (pc := 9) (kz := 40) (v := (J 164 40)) dX12_clause1_9 fl_X12_249 i_164_40 rfl rfl (fun r_9 => ?_)
    refine tz_goto (pc := 12) (tgt := 16) dX12_clause1_12 (by decide) ?_
    refine tz_istore_n (pc := 16) (L2 := [_, _]) dX12_clause1_16 rfl (by decide) rfl ?_
    refine tz_iload_n (pc := 17) dX12_clause1_17 rfl rfl ?_
    refine tz_if_ne (pc := 18) (tgt := 28) dX12_clause1_18 (by decide) (by omega) (fun h_18 => ?_) (fun h_18 => ?_)
    · refine tz_iload_n (pc := 28) dX12_clause1_28 rfl rfl ?_
      refine tz_iconst (pc := 29) dX12_clause1_29 ?_
      refine tz_icmp_ne (pc := 30) (tgt := 46) dX12_clause1_30 (by decide) (by omega) (by decide) (fun h_30 => ?_) (fun h_30 => ?_)
      · refine tz_iload_n (pc := 46) dX12_clause1_46 rfl rfl ?_
        refine tz_iconst (pc := 47) dX12_clause1_47 ?_
        refine tz_icmp_ne (pc := 48) (tgt := 58) dX12_clause1_48 (by decide) (by omega) (by decide) (fun h_48 => ?_) (fun h_48 => ?_)
        · refine tz_iload_n (pc := 58) dX12_clause1_58 rfl rfl ?_
          refine tz_iconst (pc := 59) dX12_clause1_59 ?_
          refine tz_icmp_ne (pc := 60) (tgt := 70) dX12_clause1_60 (by decide) (by omega) (by decide) (fun h_60 => ?_) (fun h_60 => ?_)
          · refine tz_aload_n (pc := 70) dX12_clause1_70 rfl rfl ?_
            refine tz_iload_n (pc := 71) dX12_clause1_71 rfl rfl ?_
            refine tz_iconst (pc := 72) dX12_clause1_72 ?_
            refine tz_icmp_ne (pc := 73) (tgt := 80) dX12_clause1_73 (by decide) (by omega) (by decide) (fun h_73 => ?_) (fun h_73 => ?_)
            · refine tz_iconst (pc := 80) dX12_clause1_80 ?_
              refine tz_iconst (pc := 81) dX12_clause1_81 ?_
              refine tz_cV (pc := 82) (z_wants hl n _ _ _ (by decide) (by decide) _ hX hb0 (g0).2.1 (by decide)) vl_X12_276 dX12_clause1_82 o_164 rfl rfl (Nat.le_of_ble_eq_true rfl) ⟨(Nat.le_of_ble_eq_true rfl), (Nat.le_of_ble_eq_true rfl)⟩ rfl rfl (Nat.le_of_ble_eq_true rfl) (Nat.le_of_ble_eq_true rfl) (fun r9 J_82 hq9 => ?_)
              obtain ⟨z_82, rfl, hz_82, w_82, o_82⟩ := hq9
              obtain ⟨rfl, v_82, x_82⟩ : z_82 = 0 ∧ ¬ J_82 164 43 = 0 ∧ RelX J_82 (pFx g 1) := by rcases o_82 with q | q; exact absurd rfl q.1; exact q.2
              have q_82 := MRT.w g0 w_82
              have s_82 := SI.fx (c := 1) hS
              clear o_82
              refine tz_if_eqT (pc := 85) (tgt := 92) (by decide) dX12_clause1_85 (by decide) (by decide) ?_
              exact tz_vret (pc := 92) dX12_clause1_92 rfl (Nat.le_of_ble_eq_true rfl) (Nat.le_of_ble_eq_true rfl) ⟨Nat.le_refl _, Nat.le_add_right _ _⟩ ⟨rfl, ⟨CL.rt hI q_82, hW.of ⟨(q_82).c 171 rfl, (q_82).f 44 rfl⟩, by rw [show pCl g = pF g 1 from (by by_cases h38 : J 164 38 = 1; (have kw := cl_k (hT9.wd h38).1 (hT9.wd h38).2; exact kw.2.2.2.2.2 (by omega)); exact cl_n (by have := hT9.so; omega)), ← fx9]; exact x_82⟩⟩
            · refine tz_iconst (pc := 76) dX12_clause1_76 ?_
              refine tz_goto (pc := 77) (tgt := 81) dX12_clause1_77 (by decide) ?_
              refine tz_iconst (pc := 81) dX12_clause1_81 ?_
              refine tz_cV (pc := 82) (z_wants hl n _ _ _ (by decide) (by decide) _ hX hb0 (g0).2.1 (by decide)) vl_X12_276 dX12_clause1_82 o_164 rfl rfl (Nat.le_of_ble_eq_true rfl) ⟨(Nat.le_of_ble_eq_true rfl), (Nat.le_of_ble_eq_true rfl)⟩ rfl rfl (Nat.le_of_ble_eq_true rfl) (Nat.le_of_ble_eq_true rfl) (fun r9 J_82 hq9 => ?_)
              obtain ⟨z_82, rfl, hz_82, w_82, o_82⟩ := hq9
              obtain ⟨rfl, rfl⟩ : z_82 = 1 ∧ J = J_82 := by rcases o_82 with q | q; exact q.2; exact absurd q.1 (by decide)
              clear o_82
              refine tz_if_eqF (pc := 85) (tgt := 92) (by decide) dX12_clause1_85 (by decide) (by decide) ?_
              refine tz_aload_n (pc := 88) dX12_clause1_88 rfl rfl ?_
              refine tz_cV (pc := 89) (y_room1 hl n _ s m g hI hw hR h9 hS) vl_X12_325 dX12_clause1_89 o_164 rfl rfl (Nat.le_of_ble_eq_true rfl) ⟨(Nat.le_of_ble_eq_true rfl), (Nat.le_of_ble_eq_true rfl)⟩ rfl rfl (Nat.le_of_ble_eq_true rfl) (Nat.le_of_ble_eq_true rfl) (fun r9 J_89 hq9 => ?_)
              obtain ⟨rfl, c_89, k_89, x_89⟩ := hq9
              exact tz_vret (pc := 92) dX12_clause1_92 rfl (Nat.le_of_ble_eq_true rfl) (Nat.le_of_ble_eq_true rfl) ⟨Nat.le_refl _, Nat.le_add_right _ _⟩ ⟨rfl, ⟨c_89, hW.of k_89, by have kw := cl_k (hT9.wd (by omega)).1 (hT9.wd (by omega)).2; rw [kw.2.2.2.2.1 (by omega)]; exact x_89⟩⟩
          · refine tz_aload_n (pc := 63) dX12_clause1_63 rfl rfl ?_
            refine tz_cV (pc := 64) (y_entry1 hl n _ s m g hI hw hR h9 hS) vl_X12_322 dX12_clause1_64 o_164 rfl rfl (Nat.le_of_ble_eq_true rfl) ⟨(Nat.le_of_ble_eq_true rfl), (Nat.le_of_ble_eq_true rfl)⟩ rfl rfl (Nat.le_of_ble_eq_true rfl) (Nat.le_of_ble_eq_true rfl) (fun r9 J_64 hq9 => ?_)
            obtain ⟨rfl, c_64, k_64, x_64⟩ := hq9
            refine tz_goto (pc := 67) (tgt := 92) dX12_clause1_67 (by decide) ?_
            exact tz_vret (pc := 92) dX12_clause1_92 rfl (Nat.le_of_ble_eq_true rfl) (Nat.le_of_ble_eq_true rfl) ⟨Nat.le_refl _, Nat.le_add_right _ _⟩ ⟨rfl, ⟨c_64, hW.of k_64, by have kw := cl_k (hT9.wd (by omega)).1 (hT9.wd (by omega)).2; rw [kw.2.2.2.1 (by omega)]; exact x_64⟩⟩
        · refine tz_aload_n (pc := 51) dX12_clause1_51 rfl rfl ?_
          refine tz_cV (pc := 52) (y_rule1 hl n _ s m g hI hw hR h9 hS) vl_X12_319 dX12_clause1_52 o_164 rfl rfl (Nat.le_of_ble_eq_true rfl) ⟨(Nat.le_of_ble_eq_true rfl), (Nat.le_of_ble_eq_true rfl)⟩ rfl rfl (Nat.le_of_ble_eq_true rfl) (Nat.le_of_ble_eq_true rfl) (fun r9 J_52 hq9 => ?_)
          obtain ⟨rfl, c_52, k_52, x_52⟩ := hq9
          refine tz_goto (pc := 55) (tgt := 92) dX12_clause1_55 (by decide) ?_
          exact tz_vret (pc := 92) dX12_clause1_92 rfl (Nat.le_of_ble_eq_true rfl) (Nat.le_of_ble_eq_true rfl) ⟨Nat.le_refl _, Nat.le_add_right _ _⟩ ⟨rfl, ⟨c_52, hW.of k_52, by have kw := cl_k (hT9.wd (by omega)).1 (hT9.wd (by omega)).2; rw [kw.2.2.1 (by omega)]; exact x_52⟩⟩
      · refine tz_aload_n (pc := 33) dX12_clause1_33 rfl rfl ?_
        refine tz_cV (pc := 34) (z_go hl n _ _ hX hb0 hS (g0).2.1) vl_X12_280 dX12_clause1_34 o_164 rfl rfl (Nat.le_of_ble_eq_true rfl) ⟨(Nat.le_of_ble_eq_true rfl), (Nat.le_of_ble_eq_true rfl)⟩ rfl rfl (Nat.le_of_ble_eq_true rfl) (Nat.le_of_ble_eq_true rfl) (fun r9 J_34 hq9 => ?_)
        obtain ⟨rfl, w_34, x_34⟩ := hq9
        have q_34 := MRT.w g0 w_34
        have s_34 := SI.nx hS
        refine tz_aload_n (pc := 37) dX12_clause1_37 rfl rfl ?_
        refine tz_iconst (pc := 38) dX12_clause1_38 ?_
        refine tz_cV (pc := 39) (z_term1 hl n _ s m _ (q_34).1.1.1 (q_34).2.1 (q_34).2.2.2.2 (((q_34).f 44 rfl).trans h44) x_34 s_34) vl_X12_298 dX12_clause1_39 o_164 rfl rfl (Nat.le_of_ble_eq_true rfl) ⟨(Nat.le_of_ble_eq_true rfl), (Nat.le_of_ble_eq_true rfl)⟩ rfl rfl (Nat.le_of_ble_eq_true rfl) (Nat.le_of_ble_eq_true rfl) (fun r9 J_39 hq9 => ?_)
        obtain ⟨z_39, rfl, hz_39, m_39, w_39, h_39, x_39, y_39⟩ := hq9
        have q_39 := MRT.tr q_34 w_39
        have l_39 := w_39.1.1.2
        have s_39 := SI.t 8 _ 1 s_34
        refine tz_pop (pc := 42) dX12_clause1_42 rfl ?_
        refine tz_goto (pc := 43) (tgt := 92) dX12_clause1_43 (by decide) ?_
        exact tz_vret (pc := 92) dX12_clause1_92 rfl (Nat.le_of_ble_eq_true rfl) (Nat.le_of_ble_eq_true rfl) ⟨Nat.le_refl _, Nat.le_add_right _ _⟩ ⟨rfl, ⟨CL.rt hI q_39, hW.of ⟨(q_39).c 171 rfl, (q_39).f 44 rfl⟩, by have kw := cl_k (hT9.wd (by omega)).1 (hT9.wd (by omega)).2; rw [kw.2.1 (by omega), show pR1 g = pT 8 (pNx g) 1 from by unfold pR1; rw [nx9]]; exact x_39⟩⟩
    · refine tz_aload_n (pc := 21) dX12_clause1_21 rfl rfl ?_
      refine tz_cV (pc := 22) (y_symbol1 hl n _ g hR h9 hS hP (by omega)) vl_X12_316 dX12_clause1_22 o_164 rfl rfl (Nat.le_of_ble_eq_true rfl) ⟨(Nat.le_of_ble_eq_true rfl), (Nat.le_of_ble_eq_true rfl)⟩ rfl rfl (Nat.le_of_ble_eq_true rfl) (Nat.le_of_ble_eq_true rfl) (fun r9 J_22 hq9 => ?_)
      obtain ⟨rfl, x_22, r_22, u_22⟩ := hq9
      refine tz_goto (pc := 25) (tgt := 92) dX12_clause1_25 (by decide) ?_
      exact tz_vret (pc := 92) dX12_clause1_92 rfl (Nat.le_of_ble_eq_true rfl) (Nat.le_of_ble_eq_true rfl) ⟨Nat.le_refl _, Nat.le_add_right _ _⟩ ⟨rfl, ⟨CL.sy hI x_22, WOK.sy hW x_22 u_22, by have kw := cl_k (hT9.wd (by omega)).1 (hT9.wd (by omega)).2; rw [kw.1 (by omega)]; exact Or.inr r_22⟩⟩

