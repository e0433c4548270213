/-! ===== normal forms ===== -/
def rM : Int → Bool := fun k => decide (40 ≤ k ∧ k ≤ 62)
def NZ (J : zJ) (b r d s m : Int) : Prop := MS J b r d s m ∧ MR (J 165) m ∧ MM (J 165) m ∧ 0 ≤ J 164 34 ∧ J 164 34 ≤ 101
def NP (J' J : zJ) (b r d s m m' : Int) : Prop := NZ J' b r d s m' ∧ MG [174] [34] rM J' J b r d s m m' ∧ J 164 34 ≤ J' 164 34
theorem NP.rf {J : zJ} {b r d s m : Int} (h : NZ J b r d s m) : NP J J b r d s m m := ⟨h, MG.rf h.1, Int.le_refl _⟩
theorem NP.tr {J3 J2 J1 : zJ} {b r d s m1 m2 m3 : Int} (g : NP J2 J1 b r d s m1 m2) (h : NP J3 J2 b r d s m2 m3) : NP J3 J1 b r d s m1 m3 := ⟨h.1, g.2.1.tr h.2.1, Int.le_trans g.2.2 h.2.2⟩
theorem MM.of {f' f : Int → Int} {m : Int} (h : MM f m) (e : ∀ k, 39 ≤ k → k < 59 → f' k = f k) : MM f' m := by
  unfold MM
  rw [e 39 (by decide) (by decide), e 40 (by decide) (by decide)]
  refine ⟨h.1, h.2.1, fun k a c => ?_⟩
  have h1 := h.1
  have h2 := h.2.1
  rw [e (41 + k) (by omega) (by omega)]
  exact h.2.2 k a c
theorem rM_r {b r d : Int} (h : mode b r d) : rM r = false := by
  unfold mode at h
  rcases h with h | h <;> (rw [h.2.1]; rfl)
theorem NP.off {J' J : zJ} {b r d s m : Int} (h : NZ J b r d s m) (h4 : ∀ k, ¬ k = 34 → J' 164 k = J 164 k) (h5 : ∀ k, (k < 40 ∨ 62 < k) → J' 165 k = J 165 k) (f : zOf (zbut [164, 165, 174]) J' J) (hm : MM (J' 165) m) (hs : J 164 34 ≤ J' 164 34 ∧ J' 164 34 ≤ 101) : NP J' J b r d s m m := by
  have g : MG [174] [34] rM J' J b r d s m m := (MG.rf h.1).off (fun k hk => h4 k (fun e => by subst e; simp at hk)) (fun k hk => h5 k (by have := of_decide_eq_false hk; omega)) f ⟨rfl, rfl, rfl, rfl⟩ (rM_r h.1.1) ⟨rfl, rfl, rfl, rfl⟩
  exact ⟨⟨g.1.1, h.2.1.of (fun k a c => h5 k (by omega)), hm, by have := h.2.2.2; omega, hs.2⟩, g, hs.1⟩
theorem NP.c174 {J' J : zJ} {b r d s m : Int} (h : NZ J b r d s m) (f : zOf (zbut [174]) J' J) : NP J' J b r d s m m := NP.off h (fun k _ => by rw [f 164 rfl]) (fun k _ => by rw [f 165 rfl]) (f.mono (zbut_sub (fun c hc => by simp at hc ⊢; omega))) (by rw [f 165 rfl]; exact h.2.2.1) (by rw [f 164 rfl]; exact ⟨Int.le_refl _, h.2.2.2.2⟩)
theorem NP.step {J : zJ} {b r d s m x y : Int} (h : NZ J b r d s m) (hx : x = J 164 34 + 1) (hs : J 164 34 ≤ 100) : NP (zup (zup J 164 34 x) 165 62 y) J b r d s m m := by
  have e4 : zup (zup J 164 34 x) 165 62 y 164 34 = x := by show zup J 164 34 x 164 34 = x; exact zup_at
  have e5 : ∀ k, ¬ k = 62 → zup (zup J 164 34 x) 165 62 y 165 k = J 165 k := fun k hk => (zup_ne hk).trans rfl
  refine NP.off h (fun k hk => ?_) (fun k hk => e5 k (by omega)) (zOf.up rfl (zOf.up rfl zOf.rf)) (h.2.2.1.of (fun k a c => e5 k (by omega))) ?_
  · show zup J 164 34 x 164 k = _
    exact zup_ne hk
  · rw [e4]
    omega
theorem NP.mmf {J' J : zJ} {b r d s m : Int} (h : NZ J b r d s m) (f : MMf J' J) (hm : MM (J' 165) m) : NP J' J b r d s m m := NP.off h (fun k _ => by rw [f.1 164 rfl]) (fun k hk => f.2 k (by omega)) (f.1.mono (zbut_sub (fun c hc => by simp at hc ⊢; omega))) hm (by rw [f.1 164 rfl]; exact ⟨Int.le_refl _, h.2.2.2.2⟩)
theorem NP.hit {J : zJ} {b r d s m y : Int} (h : NZ J b r d s m) : NP (zup J 165 61 y) J b r d s m m := by
  have e5 : ∀ k, ¬ k = 61 → zup J 165 61 y 165 k = J 165 k := fun k hk => zup_ne hk
  exact NP.off h (fun k _ => rfl) (fun k hk => e5 k (by omega)) (zOf.up rfl zOf.rf) (h.2.2.1.of (fun k a c => e5 k (by omega))) ⟨Int.le_refl _, h.2.2.2.2⟩
theorem NP.mg {J' J : zJ} {b r d s m m' : Int} (h : NZ J b r d s m) (g : MG [] [] (fun _ => false) J' J b r d s m m') : NP J' J b r d s m m' := by
  have hr := h.1.1
  unfold mode at hr
  have e5 : ∀ k, ¬ k = r → J' 165 k = J 165 k := fun k hk => g.2.2.1.2.1 k hk rfl
  have e4 : J' 164 34 = J 164 34 := g.2.2.1.2.2.1 34 rfl
  exact ⟨⟨g.1.1, (h.2.1.mono g.1.2).of (fun k a c => e5 k (by omega)), (h.2.2.1.mono g.1.2).of (fun k a c => e5 k (by omega)), by rw [e4]; exact h.2.2.2⟩, g.mono (fun _ q => by simp at q) (fun _ q => by simp at q) (fun _ _ => rfl), by rw [e4]; exact Int.le_refl _⟩
theorem NP.fu {J' J : zJ} {b r d s m m' : Int} (h : NP J' J b r d s m m') : (J' 164 21 = 0 → J 164 21 = 0) ∧ m ≤ m' ∧ (0 ≤ J' 164 34 ∧ J' 164 34 ≤ 101) ∧ J 164 34 ≤ J' 164 34 := ⟨h.2.1.2.2.2, h.2.1.1.2, h.1.2.2.2, h.2.2⟩
set_option maxHeartbeats 4000000 in
set_option maxRecDepth 100000 in
theorem m_lessS {l : Launch} {G : tb_G} (hl : l.stackTraces = false) (n : Nat) (J : zJ) (t : Int) (hr_t : -2147483648 ≤ t ∧ t < 2147483648) (b r d s m : Int) (r9 : Nat) (hN : NZ J b r d s m) (ht : 0 ≤ t ∧ t < m) (h1 : J 164 34 ≤ 100) (ihN : ∀ (J : zJ) (t : Int) (hr_t : -2147483648 ≤ t ∧ t < 2147483648) (b r d s m : Int) (hN : NZ J b r d s m) (ht : 0 ≤ t ∧ t < m), (7 * (100 - J 164 34) + J 168 (b + t)).toNat < r9 → tz_Ok l G M_X12_normalOf (12 + 1 * r9) 0 0 [.ref 164, zi t] n J (zqi (fun z J' => ∃ m', NP J' J b r d s m m' ∧ (J' 164 21 = 0 → J' 164 34 ≤ 100 → 0 ≤ z ∧ z < m'))) zN) (hm9 : (7 * (100 - J 164 34)).toNat < r9 + 1) : tz_Ok l G M_X12_lessened (12 + 1 * (r9 + 1)) 0 0 [.ref 164, zi t] n J (zqi (fun z J' => ∃ m', NP J' J b r d s m m' ∧ (J' 164 21 = 0 → J' 164 34 ≤ 100 → 0 ≤ z ∧ z < m'))) zN := by
  refine tz_Ok.of hl (by decide +kernel) rfl (tb_c1 rfl) (Nat.le_of_ble_eq_true rfl) ?_
  show tz_At l G M_X12_lessened (tb_rm (12 + 1 * (r9 + 1)) 0 0) none (tb_ZM G 0 0 (zQ n 0 (zqi (fun z J' => ∃ m', NP J' J b r d s m m' ∧ (J' 164 21 = 0 → J' 164 34 ≤ 100 → 0 ≤ z ∧ z < m')))) (zX n 0 zN)) 0 0 n J 0 [some (.ref 164), some (zi t), none, none] []
  obtain ⟨hM, hR, hm, hs1, hs2⟩ := id hN
  have hR1 := hR.1
  refine tz_iconst (pc := 0) dX12_lessened_0 ?_
  refine tz_istore_n (pc := 1) (L2 := [_, _, _, _]) dX12_lessened_1 rfl (by decide) rfl ?_
  have loop2 : ∀ (f9 : Nat) (k : Int) (J1 : zJ), ((8 - k).toNat) < f9 → (0 ≤ k ∧ k ≤ 8) → (zOf (zbut [174]) J1 J) → tz_At l G M_X12_lessened (tb_rm (12 + 1 * (r9 + 1)) 0 0) none (tb_ZM G 0 0 (zQ n 0 (zqi (fun z J' => ∃ m', NP J' J b r d s m m' ∧ (J' 164 21 = 0 → J' 164 34 ≤ 100 → 0 ≤ z ∧ z < m')))) (zX n 0 zN)) 0 0 n J1 2 [some (.ref 164), some (zi t), some (zi k), none] [] := by
    intro f9
    induction f9 with
    | zero => intro k J1 hm9; exact absurd hm9 (Nat.not_lt_zero _)
    | succ f9 ih2 =>
      intro k J1 hm2 hk f1
      refine tz_iload_n (pc := 2) dX12_lessened_2 rfl rfl ?_
      refine tz_aload_n (pc := 3) dX12_lessened_3 rfl rfl ?_
      refine tz_fR (pc := 4) dX12_lessened_4 fl_X12_9 r_164_0 ?_
      refine tz_bipush (pc := 7) dX12_lessened_7 (by decide) ?_
      refine tz_aL (pc := 9) (z := 9) (v := (J 165 9)) dX12_lessened_9 a_165 rfl (by decide) (Eq.trans (congrFun (f1 165 rfl) 9) rfl) (fun r_9 => ?_)
      refine tz_icmp_ge (pc := 10) (tgt := 112) dX12_lessened_10 (by decide) (by omega) (by omega) (fun h_10 => ?_) (fun h_10 => ?_)
      · refine tz_iload_n (pc := 112) dX12_lessened_112 rfl rfl ?_
        exact tz_iret (pc := 113) (z := t) dX12_lessened_113 rfl (Nat.le_of_ble_eq_true rfl) (Nat.le_of_ble_eq_true rfl) ⟨Nat.le_refl _, Nat.le_add_right _ _⟩ ⟨_, rfl, (by omega), ⟨m, NP.c174 hN f1, fun _ _ => ht⟩⟩
      · refine tz_aload_n (pc := 13) dX12_lessened_13 rfl rfl ?_
        refine tz_aload_n (pc := 14) dX12_lessened_14 rfl rfl ?_
        refine tz_fR (pc := 15) dX12_lessened_15 fl_X12_9 r_164_0 ?_
        refine tz_bipush (pc := 18) dX12_lessened_18 (by decide) ?_
        refine tz_iconst (pc := 20) dX12_lessened_20 ?_
        refine tz_iload_n (pc := 21) dX12_lessened_21 rfl rfl ?_
        refine tz_imul (pc := 22) (v := 2 * k) dX12_lessened_22 rfl ?_
        refine tz_iadd (pc := 23) (v := 10 + (2 * k)) dX12_lessened_23 rfl ?_
        refine tz_aL (pc := 24) (z := (10 + (2 * k))) (v := (J 165 (10 + (2 * k)))) dX12_lessened_24 a_165 rfl (by omega) (Eq.trans (congrFun (f1 165 rfl) (10 + (2 * k))) rfl) (fun r_24 => ?_)
        refine tz_iload_n (pc := 25) dX12_lessened_25 rfl rfl ?_
        have hr9 := hR.2 k (by omega) (by omega)
        refine tz_cV (pc := 26) (m_doesMatch hl n _ _ _ (by omega) (by omega) b r d s m (hM.c1 f1 (by decide)) (by omega) ht) vl_X12_227 dX12_lessened_26 o_164 rfl rfl (Nat.le_of_ble_eq_true rfl) ⟨(show 11 + 1 ≤ 12 + 1 * (r9 + 1) by omega), (show 8 + (4 + 11) + 40 * (11) ≤ 40 * (12 + 1 * (r9 + 1)) by omega)⟩ rfl rfl (Nat.le_of_ble_eq_true rfl) (Nat.le_of_ble_eq_true rfl) (fun r9 J_26 hq9 => ?_)
        obtain ⟨z_26, rfl, hz_26, b2, f2, g2⟩ := hq9
        refine tz_if_ne (pc := 29) (tgt := 35) dX12_lessened_29 (by decide) (by omega) (fun h_29 => ?_) (fun h_29 => ?_)
        · refine tz_aload_n (pc := 35) dX12_lessened_35 rfl rfl ?_
          refine tz_dup (pc := 36) dX12_lessened_36 rfl ?_
          refine tz_fI (pc := 37) (kz := 34) (v := (J 164 34)) dX12_lessened_37 fl_X12_208 i_164_34 rfl (Eq.trans (congrFun (f2 164 rfl) 34) (Eq.trans (congrFun (f1 164 rfl) 34) rfl)) (fun r_37 => ?_)
          refine tz_iconst (pc := 40) dX12_lessened_40 ?_
          refine tz_iadd (pc := 41) (v := (J 164 34) + 1) dX12_lessened_41 rfl ?_
          refine tz_pI (pc := 42) (kz := 34) dX12_lessened_42 fl_X12_208 i_164_34 rfl rfl (by omega) ?_
          refine tz_aload_n (pc := 45) dX12_lessened_45 rfl rfl ?_
          refine tz_fR (pc := 46) dX12_lessened_46 fl_X12_9 r_164_0 ?_
          refine tz_bipush (pc := 49) dX12_lessened_49 (by decide) ?_
          refine tz_dup2 (pc := 51) dX12_lessened_51 rfl rfl ?_
          refine tz_aL (pc := 52) (z := 62) (v := (J 165 62)) dX12_lessened_52 a_165 rfl (by decide) (Eq.trans (congrFun (f2 165 rfl) 62) (Eq.trans (congrFun (f1 165 rfl) 62) rfl)) (fun r_52 => ?_)
          refine tz_iconst (pc := 53) dX12_lessened_53 ?_
          refine tz_iadd (pc := 54) (v := (J 165 62) + 1) dX12_lessened_54 rfl ?_
          refine tz_tw ?_
          have rw_55 := zw_rg ((J 165 62) + 1)
          refine tz_aS (pc := 55) (z := 62) dX12_lessened_55 a_165 rfl (by decide) (zw_rg _) ?_
          have n_42 : NP ((zup (zup J_26 164 34 ((J 164 34) + 1)) 165 62 (zw ((J 165 62) + 1)))) J b r d s m m := (NP.c174 hN (f2.tr f1)).tr (NP.step (NP.c174 hN (f2.tr f1)).1 (by rw [(f2.tr f1) 164 rfl]) (by rw [(f2.tr f1) 164 rfl]; exact h1))
          have e_42 : ((zup (zup J_26 164 34 ((J 164 34) + 1)) 165 62 (zw ((J 165 62) + 1))) : zJ) 164 34 = J 164 34 + 1 := by show zup J_26 164 34 (J 164 34 + 1) 164 34 = _; exact zup_at
          refine tz_aload_n (pc := 56) dX12_lessened_56 rfl rfl ?_
          refine tz_fI (pc := 57) (kz := 34) (v := ((J 164 34) + 1)) dX12_lessened_57 fl_X12_208 i_164_34 rfl rfl (fun r_57 => ?_)
          refine tz_bipush (pc := 60) dX12_lessened_60 (by decide) ?_
          refine tz_icmp_le (pc := 62) (tgt := 67) dX12_lessened_62 (by decide) (by omega) (by decide) (fun h_62 => ?_) (fun h_62 => ?_)
          · refine tz_aload_n (pc := 67) dX12_lessened_67 rfl rfl ?_
            refine tz_aload_n (pc := 68) dX12_lessened_68 rfl rfl ?_
            refine tz_fR (pc := 69) dX12_lessened_69 fl_X12_9 r_164_0 ?_
            refine tz_bipush (pc := 72) dX12_lessened_72 (by decide) ?_
            refine tz_iconst (pc := 74) dX12_lessened_74 ?_
            refine tz_iload_n (pc := 75) dX12_lessened_75 rfl rfl ?_
            refine tz_imul (pc := 76) (v := 2 * k) dX12_lessened_76 rfl ?_
            refine tz_iadd (pc := 77) (v := 10 + (2 * k)) dX12_lessened_77 rfl ?_
            refine tz_iconst (pc := 78) dX12_lessened_78 ?_
            refine tz_iadd (pc := 79) (v := (10 + (2 * k)) + 1) dX12_lessened_79 rfl ?_
            refine tz_aL (pc := 80) (z := ((10 + (2 * k)) + 1)) (v := (J 165 ((10 + (2 * k)) + 1))) dX12_lessened_80 a_165 rfl (by omega) (Eq.trans (show zup _ 165 62 (zw ((J 165 62) + 1)) 165 ((10 + (2 * k)) + 1) = _ from zup_ne (by omega)) (Eq.trans (congrFun (f2 165 rfl) ((10 + (2 * k)) + 1)) (Eq.trans (congrFun (f1 165 rfl) ((10 + (2 * k)) + 1)) rfl))) (fun r_80 => ?_)
            refine tz_aload_n (pc := 81) dX12_lessened_81 rfl rfl ?_
            refine tz_fR (pc := 82) dX12_lessened_82 fl_X12_41 r_164_22 ?_
            refine tz_cV (pc := 85) (m_appM hl n _ _ (by omega) b r d s m n_42.1.1 (by omega) g2) vl_X12_148 dX12_lessened_85 o_164 rfl rfl (Nat.le_of_ble_eq_true rfl) ⟨(show 11 + 1 ≤ 12 + 1 * (r9 + 1) by omega), (show 8 + (7 + 11) + 40 * (11) ≤ 40 * (12 + 1 * (r9 + 1)) by omega)⟩ rfl rfl (Nat.le_of_ble_eq_true rfl) (Nat.le_of_ble_eq_true rfl) (fun r9 J_85 hq9 => ?_)
            obtain ⟨z_85, rfl, hz_85, m_85, g_85, h_85⟩ := hq9
            refine tz_istore_n (pc := 88) (L2 := [_, _, _, _]) dX12_lessened_88 rfl (by decide) rfl ?_
            refine tz_aload_n (pc := 89) dX12_lessened_89 rfl rfl ?_
            refine tz_fI (pc := 90) (kz := 21) (v := (J_85 164 21)) dX12_lessened_90 fl_X12_92 i_164_21 rfl rfl (fun r_90 => ?_)
            refine tz_if_eq (pc := 93) (tgt := 100) dX12_lessened_93 (by decide) (by omega) (fun h_93 => ?_) (fun h_93 => ?_)
            · refine tz_aload_n (pc := 100) dX12_lessened_100 rfl rfl ?_
              refine tz_iload_n (pc := 101) dX12_lessened_101 rfl rfl ?_
              have n_85 := (n_42).tr (NP.mg n_42.1 g_85)
              have u_85 := NP.fu (NP.mg n_42.1 g_85)
              have k_85 : J_85 164 34 = J 164 34 + 1 := (g_85.2.2.1.2.2.1 34 rfl).trans e_42
              have z_85b := h_85 (by omega)
              have a_85 := n_85.1.1.ar z_85b
              refine tz_cV (pc := 102) (ihN _ _ (by omega) b r d s m_85 n_85.1 z_85b (by omega)) vl_X12_221 dX12_lessened_102 o_164 rfl rfl (Nat.le_of_ble_eq_true rfl) ⟨(show (12 + 1 * r9) + 1 ≤ 12 + 1 * (r9 + 1) by omega), (show 8 + (8 + 11) + 40 * ((12 + 1 * r9)) ≤ 40 * (12 + 1 * (r9 + 1)) by omega)⟩ rfl rfl (Nat.le_of_ble_eq_true rfl) (Nat.le_of_ble_eq_true rfl) (fun r9 J_102 hq9 => ?_)
              obtain ⟨z_102, rfl, hz_102, m_102, n_102, h_102⟩ := hq9
              exact tz_iret (pc := 105) (z := z_102) dX12_lessened_105 rfl (Nat.le_of_ble_eq_true rfl) (Nat.le_of_ble_eq_true rfl) ⟨Nat.le_refl _, Nat.le_add_right _ _⟩ ⟨_, rfl, (by omega), ⟨m_102, n_85.tr n_102, h_102⟩⟩
            · refine tz_iconst (pc := 96) dX12_lessened_96 ?_
              refine tz_goto (pc := 97) (tgt := 105) dX12_lessened_97 (by decide) ?_
              exact tz_iret (pc := 105) (z := 0) dX12_lessened_105 rfl (Nat.le_of_ble_eq_true rfl) (Nat.le_of_ble_eq_true rfl) ⟨Nat.le_refl _, Nat.le_add_right _ _⟩ ⟨_, rfl, (by decide), ⟨m_85, n_42.tr (NP.mg n_42.1 g_85), fun q9 => by omega⟩⟩
          · refine tz_iconst (pc := 65) dX12_lessened_65 ?_
            exact tz_iret (pc := 66) (z := 0) dX12_lessened_66 rfl (Nat.le_of_ble_eq_true rfl) (Nat.le_of_ble_eq_true rfl) ⟨Nat.le_refl _, Nat.le_add_right _ _⟩ ⟨_, rfl, (by decide), ⟨m, n_42, fun q9 q8 => by omega⟩⟩
        · refine tz_goto (pc := 32) (tgt := 106) dX12_lessened_32 (by decide) ?_
          refine tz_iinc (pc := 106) (z := k + 1) (L2 := [_, _, _, _]) dX12_lessened_106 rfl (by omega) rfl ?_
          refine tz_goto (pc := 109) (tgt := 2) dX12_lessened_109 (by decide) ?_
          exact ih2 (k + 1) _ (by omega) (by omega) (f2.tr f1)
  exact loop2 _ 0 _ (Nat.lt_succ_self _) (by omega) zOf.rf

