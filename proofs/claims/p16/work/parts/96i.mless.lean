/-! ===== lessened of the reference, exact ===== -/
/-- if it goes on -/
def IFN (J : zJ) (P : Prop) : Prop := NGO J → P
/-- if it has stopped -/
def IFS (J : zJ) (P : Prop) : Prop := ¬ NGO J → P
theorem tb0_174 {J1 J : zJ} (f : zOf (zbut [174]) J1 J) : tb0 J1 = tb0 J := tb0_of (by rw [f 164 rfl]) (by rw [f 164 rfl]) (fun k _ _ => by rw [f 165 rfl]) (fun k _ _ => ⟨by rw [f 166 rfl], by rw [f 168 rfl]⟩) (fun k _ _ => by rw [f 167 rfl]) (fun k _ _ => ⟨by rw [f 169 rfl], by rw [f 170 rfl], by rw [f 171 rfl]⟩)
theorem omt_z {S : zJ} {p t v : Int} : omt (zup S 164 21 v) p t = omt S p t := rfl
theorem nWT_m : ∀ {a b : Nat}, a ≤ b → nWT a ≤ nWT b
  | a, 0, h => by rw [Nat.le_zero.1 h]; exact Int.le_refl _
  | a, b + 1, h => by
    by_cases e : a = b + 1
    · rw [e]; exact Int.le_refl _
    · have := nWT_m (a := a) (b := b) (by omega)
      have := nWT_0 b
      show nWT a ≤ 3 * nWT b + 8
      omega
theorem nWT_le {a : Nat} (h : a ≤ 6) : nWT a ≤ 2912 := by
  have := nWT_m h
  rw [nWT_6] at this
  exact this
set_option maxHeartbeats 4000000 in
set_option maxRecDepth 100000 in
theorem x_lessS {l : Launch} {G : tb_G} (hl : l.stackTraces = false) (n : Nat) (J : zJ) (t : Int) (hr_t : -2147483648 ≤ t ∧ t < 2147483648) (s m : Int) (r9 : Nat) (hN : NZ J 0 0 0 s m) (hs9 : J 164 9 = s) (ht : 0 ≤ t ∧ t < m) (h0 : J 164 21 = 0) (h1 : J 164 34 ≤ 100) (ihN : ∀ (J : zJ) (t : Int) (hr_t : -2147483648 ≤ t ∧ t < 2147483648) (s m : Int) (hN : NZ J 0 0 0 s m) (hs9 : J 164 9 = s) (ht : 0 ≤ t ∧ t < m), (7 * (100 - J 164 34) + J 168 (0 + t)).toNat < r9 → tz_Ok l G M_X12_normalOf (12 + 1 * r9) 0 0 [.ref 164, zi t] n J (zqi (fun z J' => ∃ m', NP J' J 0 0 0 s m m' ∧ (J' 164 21 = 0 → J' 164 34 ≤ 100 → 0 ≤ z ∧ z < m') ∧ IFN J (NOC (nWT (J 168 (0 + t)).toNat) (tb0 J) (J 164 34) t J' z) ∧ IFS J (J' 164 21 = J 164 21 ∧ J' 164 34 = J 164 34))) zN) (hm9 : (7 * (100 - J 164 34)).toNat < r9 + 1) : tz_Ok l G M_X12_lessened (12 + 1 * (r9 + 1)) 0 0 [.ref 164, zi t] n J (zqi (fun z J' => ∃ m', NP J' J 0 0 0 s m m' ∧ (J' 164 21 = 0 → J' 164 34 ≤ 100 → 0 ≤ z ∧ z < m') ∧ LES (tb0 J) (J 164 34) t J' z)) zN := by
  refine tz_Ok.of hl (by decide +kernel) rfl (tb_c1 rfl) (Nat.le_of_ble_eq_true rfl) ?_
  show tz_At l G M_X12_lessened (tb_rm (12 + 1 * (r9 + 1)) 0 0) none (tb_ZM G 0 0 (zQ n 0 (zqi (fun z J' => ∃ m', NP J' J 0 0 0 s m m' ∧ (J' 164 21 = 0 → J' 164 34 ≤ 100 → 0 ≤ z ∧ z < m') ∧ LES (tb0 J) (J 164 34) t J' z))) (zX n 0 zN)) 0 0 n J 0 [some (.ref 164), some (zi t), none, none] []
  obtain ⟨hM, hR, hm, hs1, hs2⟩ := id hN
  have hR1 := hR.1
  refine tz_iconst (pc := 0) dX12_lessened_0 ?_
  refine tz_istore_n (pc := 1) (L2 := [_, _, _, _]) dX12_lessened_1 rfl (by decide) rfl ?_
  have loop2 : ∀ (f9 : Nat) (k : Int) (J1 : zJ), ((8 - k).toNat) < f9 → (0 ≤ k ∧ k ≤ J 165 9) → (zOf (zbut [174]) J1 J) → (NOR (tb0 J) t k) → tz_At l G M_X12_lessened (tb_rm (12 + 1 * (r9 + 1)) 0 0) none (tb_ZM G 0 0 (zQ n 0 (zqi (fun z J' => ∃ m', NP J' J 0 0 0 s m m' ∧ (J' 164 21 = 0 → J' 164 34 ≤ 100 → 0 ≤ z ∧ z < m') ∧ LES (tb0 J) (J 164 34) t J' z))) (zX n 0 zN)) 0 0 n J1 2 [some (.ref 164), some (zi t), some (zi k), none] [] := by
    intro f9
    induction f9 with
    | zero => intro k J1 hm9; exact absurd hm9 (Nat.not_lt_zero _)
    | succ f9 ih2 =>
      intro k J1 hm2 hk f1 hn
      refine tz_iload_n (pc := 2) dX12_lessened_2 rfl rfl ?_
      refine tz_aload_n (pc := 3) dX12_lessened_3 rfl rfl ?_
      refine tz_fR (pc := 4) dX12_lessened_4 fl_X12_9 r_164_0 ?_
      refine tz_bipush (pc := 7) dX12_lessened_7 (by decide) ?_
      refine tz_aL (pc := 9) (z := 9) (v := (J 165 9)) dX12_lessened_9 a_165 rfl (by decide) (Eq.trans (congrFun (f1 165 rfl) 9) rfl) (fun r_9 => ?_)
      refine tz_icmp_ge (pc := 10) (tgt := 112) dX12_lessened_10 (by decide) (by omega) (by omega) (fun h_10 => ?_) (fun h_10 => ?_)
      · refine tz_iload_n (pc := 112) dX12_lessened_112 rfl rfl ?_
        exact tz_iret (pc := 113) (z := t) dX12_lessened_113 rfl (Nat.le_of_ble_eq_true rfl) (Nat.le_of_ble_eq_true rfl) ⟨Nat.le_refl _, Nat.le_add_right _ _⟩ ⟨_, rfl, (by omega), ⟨m, NP.c174 hN f1, fun _ _ => ht, Or.inl ⟨fnB_eq (show 0 ≤ J 165 9 by omega) (Int.le_refl _) (fun q a b => dcB_t (hn q a (by have b8 : q < J 165 9 := b; omega))) (Or.inl rfl), tb0_174 f1, by rw [f1 164 rfl], by rw [f1 164 rfl]; exact h0, rfl⟩⟩⟩
      · refine tz_aload_n (pc := 13) dX12_lessened_13 rfl rfl ?_
        refine tz_aload_n (pc := 14) dX12_lessened_14 rfl rfl ?_
        refine tz_fR (pc := 15) dX12_lessened_15 fl_X12_9 r_164_0 ?_
        refine tz_bipush (pc := 18) dX12_lessened_18 (by decide) ?_
        refine tz_iconst (pc := 20) dX12_lessened_20 ?_
        refine tz_iload_n (pc := 21) dX12_lessened_21 rfl rfl ?_
        refine tz_imul (pc := 22) (v := 2 * k) dX12_lessened_22 rfl ?_
        refine tz_iadd (pc := 23) (v := 10 + (2 * k)) dX12_lessened_23 rfl ?_
        refine tz_aL (pc := 24) (z := (10 + (2 * k))) (v := (J 165 (10 + (2 * k)))) dX12_lessened_24 a_165 rfl (by omega) (Eq.trans (congrFun (f1 165 rfl) (10 + (2 * k))) rfl) (fun r_24 => ?_)
        refine tz_iload_n (pc := 25) dX12_lessened_25 rfl rfl ?_
        have hr9 := hR.2 k (by omega) (by omega)
        refine tz_cV (pc := 26) (x_doesMatch hl n _ _ _ (by omega) (by omega) 0 0 0 s m (hM.c1 f1 (by decide)) (by omega) ht) vl_X12_227 dX12_lessened_26 o_164 rfl rfl (Nat.le_of_ble_eq_true rfl) ⟨(show 11 + 1 ≤ 12 + 1 * (r9 + 1) by omega), (show 8 + (4 + 11) + 40 * (11) ≤ 40 * (12 + 1 * (r9 + 1)) by omega)⟩ rfl rfl (Nat.le_of_ble_eq_true rfl) (Nat.le_of_ble_eq_true rfl) (fun r9 J_26 hq9 => ?_)
        obtain ⟨zc, rfl, hz_26, ⟨σ9, qs, q1⟩, f2, g2⟩ := hq9
        have mz9 := mmt_z (hM.c1 f1 (by decide)) (σ := σ9) (p := J 165 (10 + 2 * k)) (t := t) (by omega) ht qs
        have tz9 : tbz J1 = zup (tb0 J) 164 21 0 := by unfold tbz; rw [tb0_174 f1]
        rw [tz9, omt_z] at mz9
        have row9 : tb0 J 165 (10 + 2 * k) = J 165 (10 + 2 * k) := by rw [tb0_5, if_pos (by omega)]
        rw [← row9] at mz9
        have ok9 : ¬ zc = 0 → (omt (tb0 J) (tb0 J 165 (10 + 2 * k)) t).1 = true := fun q => mz9.1.symm.trans ((by rw [row9]; exact (q1.1.resolve_right (fun y => q y.2)).1))
        have no9 : zc = 0 → (omt (tb0 J) (tb0 J 165 (10 + 2 * k)) t).1 = false := fun q => mz9.1.symm.trans (by rw [row9]; exact (q1.1.resolve_left (fun y => by have := y.2; omega)).1)
        refine tz_if_ne (pc := 29) (tgt := 35) dX12_lessened_29 (by decide) (by omega) (fun h_29 => ?_) (fun h_29 => ?_)
        · refine tz_aload_n (pc := 35) dX12_lessened_35 rfl rfl ?_
          refine tz_dup (pc := 36) dX12_lessened_36 rfl ?_
          refine tz_fI (pc := 37) (kz := 34) (v := (J 164 34)) dX12_lessened_37 fl_X12_208 i_164_34 rfl (Eq.trans (congrFun (f2 164 rfl) 34) (Eq.trans (congrFun (f1 164 rfl) 34) rfl)) (fun r_37 => ?_)
          refine tz_iconst (pc := 40) dX12_lessened_40 ?_
          refine tz_iadd (pc := 41) (v := (J 164 34) + 1) dX12_lessened_41 rfl ?_
          refine tz_pI (pc := 42) (kz := 34) dX12_lessened_42 fl_X12_208 i_164_34 rfl rfl (by omega) ?_
          refine tz_aload_n (pc := 45) dX12_lessened_45 rfl rfl ?_
          refine tz_fR (pc := 46) dX12_lessened_46 fl_X12_9 r_164_0 ?_
          refine tz_bipush (pc := 49) dX12_lessened_49 (by decide) ?_
          refine tz_dup2 (pc := 51) dX12_lessened_51 rfl rfl ?_
          refine tz_aL (pc := 52) (z := 62) (v := (J 165 62)) dX12_lessened_52 a_165 rfl (by decide) (Eq.trans (congrFun (f2 165 rfl) 62) (Eq.trans (congrFun (f1 165 rfl) 62) rfl)) (fun r_52 => ?_)
          refine tz_iconst (pc := 53) dX12_lessened_53 ?_
          refine tz_iadd (pc := 54) (v := (J 165 62) + 1) dX12_lessened_54 rfl ?_
          refine tz_tw ?_
          have rw_55 := zw_rg ((J 165 62) + 1)
          refine tz_aS (pc := 55) (z := 62) dX12_lessened_55 a_165 rfl (by decide) (zw_rg _) ?_
          have n_42 : NP ((zup (zup J_26 164 34 ((J 164 34) + 1)) 165 62 (zw ((J 165 62) + 1)))) J 0 0 0 s m m := (NP.c174 hN (f2.tr f1)).tr (NP.step (NP.c174 hN (f2.tr f1)).1 (by rw [(f2.tr f1) 164 rfl]) (by rw [(f2.tr f1) 164 rfl]; exact h1))
          have e_42 : ((zup (zup J_26 164 34 ((J 164 34) + 1)) 165 62 (zw ((J 165 62) + 1))) : zJ) 164 34 = J 164 34 + 1 := by show zup J_26 164 34 (J 164 34 + 1) 164 34 = _; exact zup_at
          have fr9 : nFR (tb0 J) t = k ∧ k < tb0 J 165 9 := ⟨fnB_eq (by omega) (by show k ≤ J 165 9; omega) (fun q a b => dcB_t (hn q a b)) (Or.inr (dcB_f (fun w9 => by rw [ok9 (by omega)] at w9; cases w9))), by show k < J 165 9; omega⟩
          refine tz_aload_n (pc := 56) dX12_lessened_56 rfl rfl ?_
          refine tz_fI (pc := 57) (kz := 34) (v := ((J 164 34) + 1)) dX12_lessened_57 fl_X12_208 i_164_34 rfl rfl (fun r_57 => ?_)
          refine tz_bipush (pc := 60) dX12_lessened_60 (by decide) ?_
          refine tz_icmp_le (pc := 62) (tgt := 67) dX12_lessened_62 (by decide) (by omega) (by decide) (fun h_62 => ?_) (fun h_62 => ?_)
          · refine tz_aload_n (pc := 67) dX12_lessened_67 rfl rfl ?_
            refine tz_aload_n (pc := 68) dX12_lessened_68 rfl rfl ?_
            refine tz_fR (pc := 69) dX12_lessened_69 fl_X12_9 r_164_0 ?_
            refine tz_bipush (pc := 72) dX12_lessened_72 (by decide) ?_
            refine tz_iconst (pc := 74) dX12_lessened_74 ?_
            refine tz_iload_n (pc := 75) dX12_lessened_75 rfl rfl ?_
            refine tz_imul (pc := 76) (v := 2 * k) dX12_lessened_76 rfl ?_
            refine tz_iadd (pc := 77) (v := 10 + (2 * k)) dX12_lessened_77 rfl ?_
            refine tz_iconst (pc := 78) dX12_lessened_78 ?_
            refine tz_iadd (pc := 79) (v := (10 + (2 * k)) + 1) dX12_lessened_79 rfl ?_
            refine tz_aL (pc := 80) (z := ((10 + (2 * k)) + 1)) (v := (J 165 ((10 + (2 * k)) + 1))) dX12_lessened_80 a_165 rfl (by omega) (Eq.trans (show zup _ 165 62 (zw ((J 165 62) + 1)) 165 ((10 + (2 * k)) + 1) = _ from zup_ne (by omega)) (Eq.trans (congrFun (f2 165 rfl) ((10 + (2 * k)) + 1)) (Eq.trans (congrFun (f1 165 rfl) ((10 + (2 * k)) + 1)) rfl))) (fun r_80 => ?_)
            refine tz_aload_n (pc := 81) dX12_lessened_81 rfl rfl ?_
            refine tz_fR (pc := 82) dX12_lessened_82 fl_X12_41 r_164_22 ?_
            have e9_42 : ((zup (zup J_26 164 34 ((J 164 34) + 1)) 165 62 (zw ((J 165 62) + 1))) : zJ) 164 9 = s := by show J_26 164 9 = s; rw [(f2.tr f1) 164 rfl]; exact hs9
            have d_85 := (n_42.1.1.ar (t := (J 165 ((10 + (2 * k)) + 1))) (by omega)).2.2.1
            refine tz_cV (pc := 85) (o_appMR hl n 7 _ _ (by omega) s m n_42.1.1 e9_42 (by omega) g2 (by omega)) vl_X12_148 dX12_lessened_85 o_164 rfl rfl (Nat.le_of_ble_eq_true rfl) ⟨(show 11 + 1 ≤ 12 + 1 * (r9 + 1) by omega), (show 8 + (7 + 11) + 40 * (11) ≤ 40 * (12 + 1 * (r9 + 1)) by omega)⟩ rfl rfl (Nat.le_of_ble_eq_true rfl) (Nat.le_of_ble_eq_true rfl) (fun r9 J_85 hq9 => ?_)
            obtain ⟨z_85, rfl, hz_85, m_85, g_85, h_85, p_85⟩ := hq9
            have r62 : tb0 J 165 62 = J 165 62 := by rw [tb0_5, if_pos (by decide)]
            have r11 : tb0 J 165 (10 + 2 * k + 1) = J 165 (10 + 2 * k + 1) := by rw [tb0_5, if_pos (by omega)]
            have ap9 : (tb0 J_85, z_85) = nRT (tb0 J) t k := by have q9 := p_85 6 (omt (tb0 J) (tb0 J 165 (10 + 2 * k)) t).2 (fun v a b => (mz9.2 v a b).symm.trans (by rw [row9]; exact (congrFun q1.2 v).symm)) (by omega); rw [tb0_st, tb0_174 (f2.tr f1)] at q9; unfold nRT; rw [r62, r11]; exact q9
            refine tz_istore_n (pc := 88) (L2 := [_, _, _, _]) dX12_lessened_88 rfl (by decide) rfl ?_
            refine tz_aload_n (pc := 89) dX12_lessened_89 rfl rfl ?_
            refine tz_fI (pc := 90) (kz := 21) (v := (J_85 164 21)) dX12_lessened_90 fl_X12_92 i_164_21 rfl rfl (fun r_90 => ?_)
            refine tz_if_eq (pc := 93) (tgt := 100) dX12_lessened_93 (by decide) (by omega) (fun h_93 => ?_) (fun h_93 => ?_)
            · refine tz_aload_n (pc := 100) dX12_lessened_100 rfl rfl ?_
              refine tz_iload_n (pc := 101) dX12_lessened_101 rfl rfl ?_
              have n_85 := (n_42).tr (NP.mg n_42.1 g_85)
              have u_85 := NP.fu (NP.mg n_42.1 g_85)
              have k_85 : J_85 164 34 = J 164 34 + 1 := (g_85.2.2.1.2.2.1 34 rfl).trans e_42
              have z_85b := h_85 (by omega)
              have a_85 := n_85.1.1.ar z_85b
              refine tz_cV (pc := 102) (ihN _ _ (by omega) s m_85 n_85.1 ((n_85.2.1.2.2.1.2.2.1 9 rfl).trans hs9) z_85b (by omega)) vl_X12_221 dX12_lessened_102 o_164 rfl rfl (Nat.le_of_ble_eq_true rfl) ⟨(show (12 + 1 * r9) + 1 ≤ 12 + 1 * (r9 + 1) by omega), (show 8 + (8 + 11) + 40 * ((12 + 1 * r9)) ≤ 40 * (12 + 1 * (r9 + 1)) by omega)⟩ rfl rfl (Nat.le_of_ble_eq_true rfl) (Nat.le_of_ble_eq_true rfl) (fun r9 J_102 hq9 => ?_)
              obtain ⟨z_102, rfl, hz_102, m_102, n_102, h_102, x_102, y_102⟩ := hq9
              exact tz_iret (pc := 105) (z := z_102) dX12_lessened_105 rfl (Nat.le_of_ble_eq_true rfl) (Nat.le_of_ble_eq_true rfl) ⟨Nat.le_refl _, Nat.le_add_right _ _⟩ ⟨_, rfl, (by omega), ⟨m_102, n_85.tr n_102, h_102, Or.inr ⟨k, fr9, Or.inr (Or.inr ⟨by omega, by rw [← ap9]; show J_85 164 21 = 0; omega, by rw [← ap9]; exact (by have q9 := x_102 ⟨by omega, by omega⟩; rw [k_85] at q9; exact q9.m (nWT_le (by omega)))⟩)⟩⟩⟩
            · refine tz_iconst (pc := 96) dX12_lessened_96 ?_
              refine tz_goto (pc := 97) (tgt := 105) dX12_lessened_97 (by decide) ?_
              exact tz_iret (pc := 105) (z := 0) dX12_lessened_105 rfl (Nat.le_of_ble_eq_true rfl) (Nat.le_of_ble_eq_true rfl) ⟨Nat.le_refl _, Nat.le_add_right _ _⟩ ⟨_, rfl, (by decide), ⟨m_85, n_42.tr (NP.mg n_42.1 g_85), fun q9 => by omega, Or.inr ⟨k, fr9, Or.inr (Or.inl ⟨by omega, by rw [← ap9]; show ¬ J_85 164 21 = 0; omega, by omega, (g_85.2.2.1.2.2.1 34 rfl).trans e_42⟩)⟩⟩⟩
          · refine tz_iconst (pc := 65) dX12_lessened_65 ?_
            exact tz_iret (pc := 66) (z := 0) dX12_lessened_66 rfl (Nat.le_of_ble_eq_true rfl) (Nat.le_of_ble_eq_true rfl) ⟨Nat.le_refl _, Nat.le_add_right _ _⟩ ⟨_, rfl, (by decide), ⟨m, n_42, fun q9 q8 => by omega, Or.inr ⟨k, fr9, Or.inl ⟨by omega, by show J_26 164 21 = 0; rw [(f2.tr f1) 164 rfl]; exact h0, by omega⟩⟩⟩⟩
        · refine tz_goto (pc := 32) (tgt := 106) dX12_lessened_32 (by decide) ?_
          refine tz_iinc (pc := 106) (z := k + 1) (L2 := [_, _, _, _]) dX12_lessened_106 rfl (by omega) rfl ?_
          refine tz_goto (pc := 109) (tgt := 2) dX12_lessened_109 (by decide) ?_
          exact ih2 (k + 1) _ (by omega) (by omega) (f2.tr f1) (hn.s (no9 (by omega)))
  exact loop2 _ 0 _ (Nat.lt_succ_self _) (by omega) zOf.rf (fun q a b => by omega)

