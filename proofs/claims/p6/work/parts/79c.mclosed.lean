/-! ===== closing ===== -/
def OC (O : Int → Int → Prop) (J : zJ) (b d m0 : Int) : Prop := ∀ t, 0 ≤ t → t < m0 → (J 166 (b + t) < 0 → O t (-1 - J 166 (b + t))) ∧ ∀ i v, (0 ≤ i ∧ i < mar J b d t) → O (J 167 (3 * (b + t) + i)) v → O t v
def CR (O : Int → Int → Prop) (rk : Int → Nat) (S : Int → Prop) (J : zJ) (b d m0 : Int) : Prop := OC O J b d m0 ∧ gOK (J 175) m0 ∧ ∀ v, (0 ≤ v ∧ v < 8) → S v → ¬ J 175 v = -1 → ∀ u, O (J 175 v) u → S u ∧ (¬ J 175 u = -1 → rk u < rk v)
theorem CR.mg {O : Int → Int → Prop} {rk : Int → Nat} {S : Int → Prop} {J' J : zJ} {b r d s m m' m0 : Int} (h : CR O rk S J b d m0) (hm : m0 ≤ m) (g : MG [] [] (fun _ => false) J' J b r d s m m') : CR O rk S J' b d m0 := by
  have e5 : J' 175 = J 175 := g.2.2.1.2.2.2 175 rfl
  refine ⟨fun t a c => ?_, by rw [e5]; exact h.2.1, by rw [e5]; exact h.2.2⟩
  have h1 := h.1 t a c
  have hu := g.2.1 t a (by omega)
  have em := g.ar (t := t) ⟨a, by omega⟩ (g.2.2.1.2.2.2 170 rfl)
  rw [hu.1.1, em]
  refine ⟨h1.1, fun i v hi o => h1.2 i v hi ?_⟩
  have ha : mar J b d t ≤ 3 := by rw [← em]; exact (g.1.1.ar (t := t) ⟨a, by have := g.1.2; omega⟩).1.2
  rw [hu.2 i hi.1 (by omega)] at o
  exact o
set_option maxHeartbeats 4000000 in
set_option maxRecDepth 100000 in
theorem m_closedR {l : Launch} {G : tb_G} (hl : l.stackTraces = false) (n : Nat) : ∀ (r9 : Nat) (J : zJ) (t : Int) (y : Int) (hr_t : -2147483648 ≤ t ∧ t < 2147483648) (hr_y : -2147483648 ≤ y ∧ y < 2147483648) (b r d s m : Int) (m0 : Int) (q : Nat) (O : Int → Int → Prop) (rk : Int → Nat) (S : Int → Prop) (hM : MS J b r d s m) (hm : m0 ≤ m) (ht : 0 ≤ t ∧ t < m0) (hC : CR O rk S J b d m0) (hq : ∀ v, O t v → S v ∧ (¬ J 175 v = -1 → rk v < q)) (hy : 0 ≤ y ∧ y ≤ 7), (q + (7 - y).toNat) < r9 → tz_Ok l G M_X12_closedOf (5 + 1 * r9) 0 0 [.ref 164, zi t, zi y] n J (zqi (fun z J' => ∃ m', MG [] [] (fun _ => false) J' J b r d s m m' ∧ (J' 164 21 = 0 → 0 ≤ z ∧ z < m'))) zN := by
  intro r9
  induction r9 with
  | zero => intro J t y hr_t hr_y b r d s m m0 q O rk S hM hm ht hC hq hy hm9; exact absurd hm9 (Nat.not_lt_zero _)
  | succ r9 ih =>
    intro J t y hr_t hr_y b r d s m m0 q O rk S hM hm ht hC hq hy hm9
    refine tz_Ok.of hl (by decide +kernel) rfl (tb_c1 rfl) (Nat.le_of_ble_eq_true rfl) ?_
    show tz_At l G M_X12_closedOf (tb_rm (5 + 1 * (r9 + 1)) 0 0) none (tb_ZM G 0 0 (zQ n 0 (zqi (fun z J' => ∃ m', MG [] [] (fun _ => false) J' J b r d s m m' ∧ (J' 164 21 = 0 → 0 ≤ z ∧ z < m')))) (zX n 0 zN)) 0 0 n J 0 [some (.ref 164), some (zi t), some (zi y), none, none, none, none] []
    obtain ⟨hM1, hM2, hM3, hM4, hM5, hM6⟩ := id hM
    have hT := hM.told
    have ht9 : 0 ≤ t ∧ t < m := by omega
    have ha := hM.ar ht9
    have g0 : MG [] [] (fun _ => false) J J b r d s m m := MG.rf hM
    refine tz_aload_n (pc := 0) dX12_closedOf_0 rfl rfl ?_
    refine tz_fI (pc := 1) (kz := 21) (v := (J 164 21)) dX12_closedOf_1 fl_X12_92 i_164_21 rfl rfl (fun r_1 => ?_)
    refine tz_if_eq (pc := 4) (tgt := 9) dX12_closedOf_4 (by decide) (by omega) (fun h_4 => ?_) (fun h_4 => ?_)
    · refine tz_aload_n (pc := 9) dX12_closedOf_9 rfl rfl ?_
      refine tz_iload_n (pc := 10) dX12_closedOf_10 rfl rfl ?_
      refine tz_cV (pc := 11) (m_isVar hl n _ _ (by omega) b r d s m hM (by omega)) vl_X12_78 dX12_closedOf_11 o_164 rfl rfl (Nat.le_of_ble_eq_true rfl) ⟨(show 1 + 1 ≤ 5 + 1 * (r9 + 1) by omega), (show 8 + (2 + 11) + 40 * (1) ≤ 40 * (5 + 1 * (r9 + 1)) by omega)⟩ rfl rfl (Nat.le_of_ble_eq_true rfl) (Nat.le_of_ble_eq_true rfl) (fun r9 J_11 hq9 => ?_)
      obtain ⟨z_11, rfl, hz_11, rfl, rfl⟩ := hq9
      by_cases hw_14 : J 166 (b + t) < 0
      · rw [show (if J 166 (b + t) < 0 then 1 else 0 : Int) = 1 from if_pos hw_14]
        refine tz_if_eqF (pc := 14) (tgt := 63) (by decide) dX12_closedOf_14 (by decide) (by decide) ?_
        refine tz_aload_n (pc := 17) dX12_closedOf_17 rfl rfl ?_
        refine tz_fR (pc := 18) dX12_closedOf_18 fl_X12_44 r_164_23 ?_
        refine tz_aload_n (pc := 21) dX12_closedOf_21 rfl rfl ?_
        refine tz_iload_n (pc := 22) dX12_closedOf_22 rfl rfl ?_
        refine tz_cV (pc := 23) (m_varOf hl n _ _ (by omega) b r d s m hM (by omega)) vl_X12_123 dX12_closedOf_23 o_164 rfl rfl (Nat.le_of_ble_eq_true rfl) ⟨(show 1 + 1 ≤ 5 + 1 * (r9 + 1) by omega), (show 8 + (2 + 11) + 40 * (1) ≤ 40 * (5 + 1 * (r9 + 1)) by omega)⟩ rfl rfl (Nat.le_of_ble_eq_true rfl) (Nat.le_of_ble_eq_true rfl) (fun r9 J_23 hq9 => ?_)
        obtain ⟨z_23, rfl, hz_23, rfl, rfl⟩ := hq9
        have hv9 := hC.2.1 (-1 - J 166 (b + t)) (by omega) (by omega)
        refine tz_aL (pc := 26) (z := (-1 - J 166 (b + t))) (v := (J 175 (-1 - J 166 (b + t)))) dX12_closedOf_26 a_175 rfl (by omega) rfl (fun r_26 => ?_)
        refine tz_iconst (pc := 27) dX12_closedOf_27 ?_
        refine tz_icmp_ne (pc := 28) (tgt := 47) dX12_closedOf_28 (by decide) (by omega) (by decide) (fun h_28 => ?_) (fun h_28 => ?_)
        · refine tz_aload_n (pc := 47) dX12_closedOf_47 rfl rfl ?_
          refine tz_aload_n (pc := 48) dX12_closedOf_48 rfl rfl ?_
          refine tz_fR (pc := 49) dX12_closedOf_49 fl_X12_44 r_164_23 ?_
          refine tz_aload_n (pc := 52) dX12_closedOf_52 rfl rfl ?_
          refine tz_iload_n (pc := 53) dX12_closedOf_53 rfl rfl ?_
          refine tz_cV (pc := 54) (m_varOf hl n _ _ (by omega) b r d s m hM (by omega)) vl_X12_123 dX12_closedOf_54 o_164 rfl rfl (Nat.le_of_ble_eq_true rfl) ⟨(show 1 + 1 ≤ 5 + 1 * (r9 + 1) by omega), (show 8 + (2 + 11) + 40 * (1) ≤ 40 * (5 + 1 * (r9 + 1)) by omega)⟩ rfl rfl (Nat.le_of_ble_eq_true rfl) (Nat.le_of_ble_eq_true rfl) (fun r9 J_54 hq9 => ?_)
          obtain ⟨z_54, rfl, hz_54, rfl, rfl⟩ := hq9
          refine tz_aL (pc := 57) (z := (-1 - J 166 (b + t))) (v := (J 175 (-1 - J 166 (b + t)))) dX12_closedOf_57 a_175 rfl (by omega) rfl (fun r_57 => ?_)
          refine tz_iload_n (pc := 58) dX12_closedOf_58 rfl rfl ?_
          have l0_59 := (g0).1.2
          have t0_59 := (g0).1.1.told
          have oo := hq _ ((hC.1 t ht.1 ht.2).1 (by omega))
          have orr := oo.2 (by omega)
          refine tz_cV (pc := 59) (ih _ _ _ (by omega) (by omega) b r d s m m0 (rk (-1 - J 166 (b + t))) O rk S (g0).1.1 hm (by omega) hC (hC.2.2 _ (by omega) oo.1 (by omega)) hy (by omega)) vl_X12_158 dX12_closedOf_59 o_164 rfl rfl (Nat.le_of_ble_eq_true rfl) ⟨(show (5 + 1 * r9) + 1 ≤ 5 + 1 * (r9 + 1) by omega), (show 8 + (7 + 11) + 40 * ((5 + 1 * r9)) ≤ 40 * (5 + 1 * (r9 + 1)) by omega)⟩ rfl rfl (Nat.le_of_ble_eq_true rfl) (Nat.le_of_ble_eq_true rfl) (fun r9 J_59 hq9 => ?_)
          obtain ⟨z_59, rfl, hz_59, m_59, g_59, h_59⟩ := hq9
          have q_59 := MG.tr g0 g_59
          have f_59 := g_59.2.2.2
          have l_59 := g_59.1.2
          exact tz_iret (pc := 62) (z := z_59) dX12_closedOf_62 rfl (Nat.le_of_ble_eq_true rfl) (Nat.le_of_ble_eq_true rfl) ⟨Nat.le_refl _, Nat.le_add_right _ _⟩ ⟨_, rfl, (by omega), ⟨m_59, q_59, h_59⟩⟩
        · refine tz_aload_n (pc := 31) dX12_closedOf_31 rfl rfl ?_
          refine tz_iload_n (pc := 32) dX12_closedOf_32 rfl rfl ?_
          refine tz_cV (pc := 33) (m_deep hl n _ _ (by omega)) vl_X12_155 dX12_closedOf_33 o_164 rfl rfl (Nat.le_of_ble_eq_true rfl) ⟨(show 0 + 1 ≤ 5 + 1 * (r9 + 1) by omega), (show 8 + (2 + 11) + 40 * (0) ≤ 40 * (5 + 1 * (r9 + 1)) by omega)⟩ rfl rfl (Nat.le_of_ble_eq_true rfl) (Nat.le_of_ble_eq_true rfl) (fun r9 J_33 hq9 => ?_)
          obtain ⟨z_33, rfl, hz_33, d1, d2⟩ := hq9
          have q_33 := MG.deep hM d1 (by omega)
          have l_33 := q_33.1.2
          rcases d2 with ⟨rfl, d2⟩ | ⟨rfl, d2⟩
          · refine tz_if_eqT (pc := 36) (tgt := 43) (by decide) dX12_closedOf_36 (by decide) (by decide) ?_
            refine tz_iload_n (pc := 43) dX12_closedOf_43 rfl rfl ?_
            refine tz_goto (pc := 44) (tgt := 62) dX12_closedOf_44 (by decide) ?_
            exact tz_iret (pc := 62) (z := t) dX12_closedOf_62 rfl (Nat.le_of_ble_eq_true rfl) (Nat.le_of_ble_eq_true rfl) ⟨Nat.le_refl _, Nat.le_add_right _ _⟩ ⟨_, rfl, (by omega), ⟨m, q_33, fun q9 => by omega⟩⟩
          · refine tz_if_eqF (pc := 36) (tgt := 43) (by decide) dX12_closedOf_36 (by decide) (by decide) ?_
            refine tz_iconst (pc := 39) dX12_closedOf_39 ?_
            refine tz_goto (pc := 40) (tgt := 62) dX12_closedOf_40 (by decide) ?_
            exact tz_iret (pc := 62) (z := 0) dX12_closedOf_62 rfl (Nat.le_of_ble_eq_true rfl) (Nat.le_of_ble_eq_true rfl) ⟨Nat.le_refl _, Nat.le_add_right _ _⟩ ⟨_, rfl, (by decide), ⟨m, q_33, fun q9 => by omega⟩⟩
      · rw [show (if J 166 (b + t) < 0 then 1 else 0 : Int) = 0 from if_neg hw_14]
        refine tz_if_eqT (pc := 14) (tgt := 63) (by decide) dX12_closedOf_14 (by decide) (by decide) ?_
        refine tz_aload_n (pc := 63) dX12_closedOf_63 rfl rfl ?_
        refine tz_iload_n (pc := 64) dX12_closedOf_64 rfl rfl ?_
        refine tz_cV (pc := 65) (m_deep hl n _ _ (by omega)) vl_X12_155 dX12_closedOf_65 o_164 rfl rfl (Nat.le_of_ble_eq_true rfl) ⟨(show 0 + 1 ≤ 5 + 1 * (r9 + 1) by omega), (show 8 + (2 + 11) + 40 * (0) ≤ 40 * (5 + 1 * (r9 + 1)) by omega)⟩ rfl rfl (Nat.le_of_ble_eq_true rfl) (Nat.le_of_ble_eq_true rfl) (fun r9 J_65 hq9 => ?_)
        obtain ⟨z_65, rfl, hz_65, d1, d2⟩ := hq9
        have q_65 := MG.deep hM d1 (by omega)
        have l_65 := q_65.1.2
        rcases d2 with ⟨rfl, d2⟩ | ⟨rfl, d2⟩
        · refine tz_if_eqT (pc := 68) (tgt := 73) (by decide) dX12_closedOf_68 (by decide) (by decide) ?_
          refine tz_aload_n (pc := 73) dX12_closedOf_73 rfl rfl ?_
          refine tz_iload_n (pc := 74) dX12_closedOf_74 rfl rfl ?_
          have l_75 := (q_65).1.2
          have tt_75 := (q_65).1.1.told
          refine tz_cV (pc := 75) (m_arity hl n _ _ (by omega) b r d s m (q_65).1.1 (by omega)) vl_X12_111 dX12_closedOf_75 o_164 rfl rfl (Nat.le_of_ble_eq_true rfl) ⟨(show 2 + 1 ≤ 5 + 1 * (r9 + 1) by omega), (show 8 + (2 + 11) + 40 * (2) ≤ 40 * (5 + 1 * (r9 + 1)) by omega)⟩ rfl rfl (Nat.le_of_ble_eq_true rfl) (Nat.le_of_ble_eq_true rfl) (fun r9 J_75 hq9 => ?_)
          obtain ⟨z_75, rfl, hz_75, rfl, hv_75⟩ := hq9
          have he_75 : mar J_65 b d t = mar J b d t := (q_65).ar ht9 ((q_65).2.2.1.2.2.2 170 rfl)
          rw [he_75] at hv_75
          obtain rfl : mar J b d t = z_75 := hv_75
          refine tz_istore_n (pc := 78) (L2 := [_, _, _, _, _, _, _]) dX12_closedOf_78 rfl (by decide) rfl ?_
          refine tz_iload_n (pc := 79) dX12_closedOf_79 rfl rfl ?_
          refine tz_if_le (pc := 80) (tgt := 99) dX12_closedOf_80 (by decide) (by omega) (fun h_80 => ?_) (fun h_80 => ?_)
          · refine tz_iconst (pc := 99) dX12_closedOf_99 ?_
            refine tz_istore (pc := 100) (L2 := [_, _, _, _, _, _, _]) dX12_closedOf_100 (by decide) rfl ?_
            refine tz_iload_n (pc := 102) dX12_closedOf_102 rfl rfl ?_
            refine tz_iconst (pc := 103) dX12_closedOf_103 ?_
            refine tz_icmp_le (pc := 104) (tgt := 123) dX12_closedOf_104 (by decide) (by omega) (by decide) (fun h_104 => ?_) (fun h_104 => ?_)
            · refine tz_iconst (pc := 123) dX12_closedOf_123 ?_
              refine tz_istore (pc := 124) (L2 := [_, _, _, _, _, _, _]) dX12_closedOf_124 (by decide) rfl ?_
              refine tz_iload_n (pc := 126) dX12_closedOf_126 rfl rfl ?_
              refine tz_iconst (pc := 127) dX12_closedOf_127 ?_
              refine tz_icmp_le (pc := 128) (tgt := 147) dX12_closedOf_128 (by decide) (by omega) (by decide) (fun h_128 => ?_) (fun h_128 => ?_)
              · refine tz_iconst (pc := 147) dX12_closedOf_147 ?_
                refine tz_istore (pc := 148) (L2 := [_, _, _, _, _, _, _]) dX12_closedOf_148 (by decide) rfl ?_
                refine tz_aload_n (pc := 150) dX12_closedOf_150 rfl rfl ?_
                refine tz_iload_n (pc := 151) dX12_closedOf_151 rfl rfl ?_
                refine tz_iload (pc := 152) dX12_closedOf_152 rfl ?_
                refine tz_iload (pc := 154) dX12_closedOf_154 rfl ?_
                refine tz_iload (pc := 156) dX12_closedOf_156 rfl ?_
                have l0_158 := (q_65).1.2
                have t0_158 := (q_65).1.1.told
                refine tz_cV (pc := 158) (m_remade hl n _ _ _ _ _ (by omega) (by omega) (by omega) (by omega) b r d s m (q_65).1.1 (by omega) (fun q9 => by have e9 := (q_65).ar ht9 ((q_65).2.2.1.2.2.2 170 rfl); rw [e9]; omega)) vl_X12_152 dX12_closedOf_158 o_164 rfl rfl (Nat.le_of_ble_eq_true rfl) ⟨(show 3 + 1 ≤ 5 + 1 * (r9 + 1) by omega), (show 8 + (5 + 11) + 40 * (3) ≤ 40 * (5 + 1 * (r9 + 1)) by omega)⟩ rfl rfl (Nat.le_of_ble_eq_true rfl) (Nat.le_of_ble_eq_true rfl) (fun r9 J_158 hq9 => ?_)
                obtain ⟨z_158, rfl, hz_158, m_158, g_158, h_158⟩ := hq9
                have q_158 := MG.tr q_65 g_158
                have f_158 := g_158.2.2.2
                have l_158 := g_158.1.2
                exact tz_iret (pc := 161) (z := z_158) dX12_closedOf_161 rfl (Nat.le_of_ble_eq_true rfl) (Nat.le_of_ble_eq_true rfl) ⟨Nat.le_refl _, Nat.le_add_right _ _⟩ ⟨_, rfl, (by omega), ⟨m_158, q_158, h_158⟩⟩
              · refine tz_aload_n (pc := 131) dX12_closedOf_131 rfl rfl ?_
                refine tz_aload_n (pc := 132) dX12_closedOf_132 rfl rfl ?_
                refine tz_iload_n (pc := 133) dX12_closedOf_133 rfl rfl ?_
                refine tz_iconst (pc := 134) dX12_closedOf_134 ?_
                have l_135 := (q_65).1.2
                have tt_135 := (q_65).1.1.told
                refine tz_cV (pc := 135) (m_arg hl n _ _ _ (by omega) (by decide) b r d s m (q_65).1.1 (by omega) (by omega)) vl_X12_88 dX12_closedOf_135 o_164 rfl rfl (Nat.le_of_ble_eq_true rfl) ⟨(show 0 + 1 ≤ 5 + 1 * (r9 + 1) by omega), (show 8 + (3 + 11) + 40 * (0) ≤ 40 * (5 + 1 * (r9 + 1)) by omega)⟩ rfl rfl (Nat.le_of_ble_eq_true rfl) (Nat.le_of_ble_eq_true rfl) (fun r9 J_135 hq9 => ?_)
                obtain ⟨z_135, rfl, hz_135, rfl, hv_135⟩ := hq9
                have he_135 : J_65 167 (3 * (b + t) + 2) = J 167 (3 * (b + t) + 2) := ((q_65).2.1 t ht9.1 ht9.2).2 2 (by omega) (by omega)
                rw [he_135] at hv_135
                obtain rfl : J 167 (3 * (b + t) + 2) = z_135 := hv_135
                refine tz_iload_n (pc := 138) dX12_closedOf_138 rfl rfl ?_
                refine tz_iconst (pc := 139) dX12_closedOf_139 ?_
                refine tz_iadd (pc := 140) (v := y + 1) dX12_closedOf_140 rfl ?_
                have l0_141 := (q_65).1.2
                have t0_141 := (q_65).1.1.told
                have a_141 := hM.arg (t := t) (i := 2) ht9 (by omega)
                refine tz_cV (pc := 141) (ih _ _ _ (by omega) (by omega) b r d s m m0 q O rk S (q_65).1.1 (by omega) (by omega) (hC.mg hm (q_65)) (fun v o9 => by rw [(q_65).2.2.1.2.2.2 175 rfl]; exact hq v ((hC.1 t ht.1 ht.2).2 2 v (by omega) o9)) (by omega) (by omega)) vl_X12_158 dX12_closedOf_141 o_164 rfl rfl (Nat.le_of_ble_eq_true rfl) ⟨(show (5 + 1 * r9) + 1 ≤ 5 + 1 * (r9 + 1) by omega), (show 8 + (7 + 11) + 40 * ((5 + 1 * r9)) ≤ 40 * (5 + 1 * (r9 + 1)) by omega)⟩ rfl rfl (Nat.le_of_ble_eq_true rfl) (Nat.le_of_ble_eq_true rfl) (fun r9 J_141 hq9 => ?_)
                obtain ⟨z_141, rfl, hz_141, m_141, g_141, h_141⟩ := hq9
                have q_141 := MG.tr q_65 g_141
                have f_141 := g_141.2.2.2
                have l_141 := g_141.1.2
                refine tz_goto (pc := 144) (tgt := 148) dX12_closedOf_144 (by decide) ?_
                refine tz_istore (pc := 148) (L2 := [_, _, _, _, _, _, _]) dX12_closedOf_148 (by decide) rfl ?_
                refine tz_aload_n (pc := 150) dX12_closedOf_150 rfl rfl ?_
                refine tz_iload_n (pc := 151) dX12_closedOf_151 rfl rfl ?_
                refine tz_iload (pc := 152) dX12_closedOf_152 rfl ?_
                refine tz_iload (pc := 154) dX12_closedOf_154 rfl ?_
                refine tz_iload (pc := 156) dX12_closedOf_156 rfl ?_
                have l0_158 := (q_141).1.2
                have t0_158 := (q_141).1.1.told
                refine tz_cV (pc := 158) (m_remade hl n _ _ _ _ _ (by omega) (by omega) (by omega) (by omega) b r d s m_141 (q_141).1.1 (by omega) (fun q9 => by have e9 := (q_141).ar ht9 ((q_141).2.2.1.2.2.2 170 rfl); rw [e9]; omega)) vl_X12_152 dX12_closedOf_158 o_164 rfl rfl (Nat.le_of_ble_eq_true rfl) ⟨(show 3 + 1 ≤ 5 + 1 * (r9 + 1) by omega), (show 8 + (5 + 11) + 40 * (3) ≤ 40 * (5 + 1 * (r9 + 1)) by omega)⟩ rfl rfl (Nat.le_of_ble_eq_true rfl) (Nat.le_of_ble_eq_true rfl) (fun r9 J_158 hq9 => ?_)
                obtain ⟨z_158, rfl, hz_158, m_158, g_158, h_158⟩ := hq9
                have q_158 := MG.tr q_141 g_158
                have f_158 := g_158.2.2.2
                have l_158 := g_158.1.2
                exact tz_iret (pc := 161) (z := z_158) dX12_closedOf_161 rfl (Nat.le_of_ble_eq_true rfl) (Nat.le_of_ble_eq_true rfl) ⟨Nat.le_refl _, Nat.le_add_right _ _⟩ ⟨_, rfl, (by omega), ⟨m_158, q_158, h_158⟩⟩
            · refine tz_aload_n (pc := 107) dX12_closedOf_107 rfl rfl ?_
              refine tz_aload_n (pc := 108) dX12_closedOf_108 rfl rfl ?_
              refine tz_iload_n (pc := 109) dX12_closedOf_109 rfl rfl ?_
              refine tz_iconst (pc := 110) dX12_closedOf_110 ?_
              have l_111 := (q_65).1.2
              have tt_111 := (q_65).1.1.told
              refine tz_cV (pc := 111) (m_arg hl n _ _ _ (by omega) (by decide) b r d s m (q_65).1.1 (by omega) (by omega)) vl_X12_88 dX12_closedOf_111 o_164 rfl rfl (Nat.le_of_ble_eq_true rfl) ⟨(show 0 + 1 ≤ 5 + 1 * (r9 + 1) by omega), (show 8 + (3 + 11) + 40 * (0) ≤ 40 * (5 + 1 * (r9 + 1)) by omega)⟩ rfl rfl (Nat.le_of_ble_eq_true rfl) (Nat.le_of_ble_eq_true rfl) (fun r9 J_111 hq9 => ?_)
              obtain ⟨z_111, rfl, hz_111, rfl, hv_111⟩ := hq9
              have he_111 : J_65 167 (3 * (b + t) + 1) = J 167 (3 * (b + t) + 1) := ((q_65).2.1 t ht9.1 ht9.2).2 1 (by omega) (by omega)
              rw [he_111] at hv_111
              obtain rfl : J 167 (3 * (b + t) + 1) = z_111 := hv_111
              refine tz_iload_n (pc := 114) dX12_closedOf_114 rfl rfl ?_
              refine tz_iconst (pc := 115) dX12_closedOf_115 ?_
              refine tz_iadd (pc := 116) (v := y + 1) dX12_closedOf_116 rfl ?_
              have l0_117 := (q_65).1.2
              have t0_117 := (q_65).1.1.told
              have a_117 := hM.arg (t := t) (i := 1) ht9 (by omega)
              refine tz_cV (pc := 117) (ih _ _ _ (by omega) (by omega) b r d s m m0 q O rk S (q_65).1.1 (by omega) (by omega) (hC.mg hm (q_65)) (fun v o9 => by rw [(q_65).2.2.1.2.2.2 175 rfl]; exact hq v ((hC.1 t ht.1 ht.2).2 1 v (by omega) o9)) (by omega) (by omega)) vl_X12_158 dX12_closedOf_117 o_164 rfl rfl (Nat.le_of_ble_eq_true rfl) ⟨(show (5 + 1 * r9) + 1 ≤ 5 + 1 * (r9 + 1) by omega), (show 8 + (7 + 11) + 40 * ((5 + 1 * r9)) ≤ 40 * (5 + 1 * (r9 + 1)) by omega)⟩ rfl rfl (Nat.le_of_ble_eq_true rfl) (Nat.le_of_ble_eq_true rfl) (fun r9 J_117 hq9 => ?_)
              obtain ⟨z_117, rfl, hz_117, m_117, g_117, h_117⟩ := hq9
              have q_117 := MG.tr q_65 g_117
              have f_117 := g_117.2.2.2
              have l_117 := g_117.1.2
              refine tz_goto (pc := 120) (tgt := 124) dX12_closedOf_120 (by decide) ?_
              refine tz_istore (pc := 124) (L2 := [_, _, _, _, _, _, _]) dX12_closedOf_124 (by decide) rfl ?_
              refine tz_iload_n (pc := 126) dX12_closedOf_126 rfl rfl ?_
              refine tz_iconst (pc := 127) dX12_closedOf_127 ?_
              refine tz_icmp_le (pc := 128) (tgt := 147) dX12_closedOf_128 (by decide) (by omega) (by decide) (fun h_128 => ?_) (fun h_128 => ?_)
              · refine tz_iconst (pc := 147) dX12_closedOf_147 ?_
                refine tz_istore (pc := 148) (L2 := [_, _, _, _, _, _, _]) dX12_closedOf_148 (by decide) rfl ?_
                refine tz_aload_n (pc := 150) dX12_closedOf_150 rfl rfl ?_
                refine tz_iload_n (pc := 151) dX12_closedOf_151 rfl rfl ?_
                refine tz_iload (pc := 152) dX12_closedOf_152 rfl ?_
                refine tz_iload (pc := 154) dX12_closedOf_154 rfl ?_
                refine tz_iload (pc := 156) dX12_closedOf_156 rfl ?_
                have l0_158 := (q_117).1.2
                have t0_158 := (q_117).1.1.told
                refine tz_cV (pc := 158) (m_remade hl n _ _ _ _ _ (by omega) (by omega) (by omega) (by omega) b r d s m_117 (q_117).1.1 (by omega) (fun q9 => by have e9 := (q_117).ar ht9 ((q_117).2.2.1.2.2.2 170 rfl); rw [e9]; omega)) vl_X12_152 dX12_closedOf_158 o_164 rfl rfl (Nat.le_of_ble_eq_true rfl) ⟨(show 3 + 1 ≤ 5 + 1 * (r9 + 1) by omega), (show 8 + (5 + 11) + 40 * (3) ≤ 40 * (5 + 1 * (r9 + 1)) by omega)⟩ rfl rfl (Nat.le_of_ble_eq_true rfl) (Nat.le_of_ble_eq_true rfl) (fun r9 J_158 hq9 => ?_)
                obtain ⟨z_158, rfl, hz_158, m_158, g_158, h_158⟩ := hq9
                have q_158 := MG.tr q_117 g_158
                have f_158 := g_158.2.2.2
                have l_158 := g_158.1.2
                exact tz_iret (pc := 161) (z := z_158) dX12_closedOf_161 rfl (Nat.le_of_ble_eq_true rfl) (Nat.le_of_ble_eq_true rfl) ⟨Nat.le_refl _, Nat.le_add_right _ _⟩ ⟨_, rfl, (by omega), ⟨m_158, q_158, h_158⟩⟩
              · refine tz_aload_n (pc := 131) dX12_closedOf_131 rfl rfl ?_
                refine tz_aload_n (pc := 132) dX12_closedOf_132 rfl rfl ?_
                refine tz_iload_n (pc := 133) dX12_closedOf_133 rfl rfl ?_
                refine tz_iconst (pc := 134) dX12_closedOf_134 ?_
                have l_135 := (q_117).1.2
                have tt_135 := (q_117).1.1.told
                refine tz_cV (pc := 135) (m_arg hl n _ _ _ (by omega) (by decide) b r d s m_117 (q_117).1.1 (by omega) (by omega)) vl_X12_88 dX12_closedOf_135 o_164 rfl rfl (Nat.le_of_ble_eq_true rfl) ⟨(show 0 + 1 ≤ 5 + 1 * (r9 + 1) by omega), (show 8 + (3 + 11) + 40 * (0) ≤ 40 * (5 + 1 * (r9 + 1)) by omega)⟩ rfl rfl (Nat.le_of_ble_eq_true rfl) (Nat.le_of_ble_eq_true rfl) (fun r9 J_135 hq9 => ?_)
                obtain ⟨z_135, rfl, hz_135, rfl, hv_135⟩ := hq9
                have he_135 : J_117 167 (3 * (b + t) + 2) = J 167 (3 * (b + t) + 2) := ((q_117).2.1 t ht9.1 ht9.2).2 2 (by omega) (by omega)
                rw [he_135] at hv_135
                obtain rfl : J 167 (3 * (b + t) + 2) = z_135 := hv_135
                refine tz_iload_n (pc := 138) dX12_closedOf_138 rfl rfl ?_
                refine tz_iconst (pc := 139) dX12_closedOf_139 ?_
                refine tz_iadd (pc := 140) (v := y + 1) dX12_closedOf_140 rfl ?_
                have l0_141 := (q_117).1.2
                have t0_141 := (q_117).1.1.told
                have a_141 := hM.arg (t := t) (i := 2) ht9 (by omega)
                refine tz_cV (pc := 141) (ih _ _ _ (by omega) (by omega) b r d s m_117 m0 q O rk S (q_117).1.1 (by omega) (by omega) (hC.mg hm (q_117)) (fun v o9 => by rw [(q_117).2.2.1.2.2.2 175 rfl]; exact hq v ((hC.1 t ht.1 ht.2).2 2 v (by omega) o9)) (by omega) (by omega)) vl_X12_158 dX12_closedOf_141 o_164 rfl rfl (Nat.le_of_ble_eq_true rfl) ⟨(show (5 + 1 * r9) + 1 ≤ 5 + 1 * (r9 + 1) by omega), (show 8 + (7 + 11) + 40 * ((5 + 1 * r9)) ≤ 40 * (5 + 1 * (r9 + 1)) by omega)⟩ rfl rfl (Nat.le_of_ble_eq_true rfl) (Nat.le_of_ble_eq_true rfl) (fun r9 J_141 hq9 => ?_)
                obtain ⟨z_141, rfl, hz_141, m_141, g_141, h_141⟩ := hq9
                have q_141 := MG.tr q_117 g_141
                have f_141 := g_141.2.2.2
                have l_141 := g_141.1.2
                refine tz_goto (pc := 144) (tgt := 148) dX12_closedOf_144 (by decide) ?_
                refine tz_istore (pc := 148) (L2 := [_, _, _, _, _, _, _]) dX12_closedOf_148 (by decide) rfl ?_
                refine tz_aload_n (pc := 150) dX12_closedOf_150 rfl rfl ?_
                refine tz_iload_n (pc := 151) dX12_closedOf_151 rfl rfl ?_
                refine tz_iload (pc := 152) dX12_closedOf_152 rfl ?_
                refine tz_iload (pc := 154) dX12_closedOf_154 rfl ?_
                refine tz_iload (pc := 156) dX12_closedOf_156 rfl ?_
                have l0_158 := (q_141).1.2
                have t0_158 := (q_141).1.1.told
                refine tz_cV (pc := 158) (m_remade hl n _ _ _ _ _ (by omega) (by omega) (by omega) (by omega) b r d s m_141 (q_141).1.1 (by omega) (fun q9 => by have e9 := (q_141).ar ht9 ((q_141).2.2.1.2.2.2 170 rfl); rw [e9]; omega)) vl_X12_152 dX12_closedOf_158 o_164 rfl rfl (Nat.le_of_ble_eq_true rfl) ⟨(show 3 + 1 ≤ 5 + 1 * (r9 + 1) by omega), (show 8 + (5 + 11) + 40 * (3) ≤ 40 * (5 + 1 * (r9 + 1)) by omega)⟩ rfl rfl (Nat.le_of_ble_eq_true rfl) (Nat.le_of_ble_eq_true rfl) (fun r9 J_158 hq9 => ?_)
                obtain ⟨z_158, rfl, hz_158, m_158, g_158, h_158⟩ := hq9
                have q_158 := MG.tr q_141 g_158
                have f_158 := g_158.2.2.2
                have l_158 := g_158.1.2
                exact tz_iret (pc := 161) (z := z_158) dX12_closedOf_161 rfl (Nat.le_of_ble_eq_true rfl) (Nat.le_of_ble_eq_true rfl) ⟨Nat.le_refl _, Nat.le_add_right _ _⟩ ⟨_, rfl, (by omega), ⟨m_158, q_158, h_158⟩⟩
          · refine tz_aload_n (pc := 83) dX12_closedOf_83 rfl rfl ?_
            refine tz_aload_n (pc := 84) dX12_closedOf_84 rfl rfl ?_
            refine tz_iload_n (pc := 85) dX12_closedOf_85 rfl rfl ?_
            refine tz_iconst (pc := 86) dX12_closedOf_86 ?_
            have l_87 := (q_65).1.2
            have tt_87 := (q_65).1.1.told
            refine tz_cV (pc := 87) (m_arg hl n _ _ _ (by omega) (by decide) b r d s m (q_65).1.1 (by omega) (by omega)) vl_X12_88 dX12_closedOf_87 o_164 rfl rfl (Nat.le_of_ble_eq_true rfl) ⟨(show 0 + 1 ≤ 5 + 1 * (r9 + 1) by omega), (show 8 + (3 + 11) + 40 * (0) ≤ 40 * (5 + 1 * (r9 + 1)) by omega)⟩ rfl rfl (Nat.le_of_ble_eq_true rfl) (Nat.le_of_ble_eq_true rfl) (fun r9 J_87 hq9 => ?_)
            obtain ⟨z_87, rfl, hz_87, rfl, hv_87⟩ := hq9
            have he_87 : J_65 167 (3 * (b + t) + 0) = J 167 (3 * (b + t) + 0) := ((q_65).2.1 t ht9.1 ht9.2).2 0 (by omega) (by omega)
            rw [he_87] at hv_87
            obtain rfl : J 167 (3 * (b + t) + 0) = z_87 := hv_87
            refine tz_iload_n (pc := 90) dX12_closedOf_90 rfl rfl ?_
            refine tz_iconst (pc := 91) dX12_closedOf_91 ?_
            refine tz_iadd (pc := 92) (v := y + 1) dX12_closedOf_92 rfl ?_
            have l0_93 := (q_65).1.2
            have t0_93 := (q_65).1.1.told
            have a_93 := hM.arg (t := t) (i := 0) ht9 (by omega)
            refine tz_cV (pc := 93) (ih _ _ _ (by omega) (by omega) b r d s m m0 q O rk S (q_65).1.1 (by omega) (by omega) (hC.mg hm (q_65)) (fun v o9 => by rw [(q_65).2.2.1.2.2.2 175 rfl]; exact hq v ((hC.1 t ht.1 ht.2).2 0 v (by omega) o9)) (by omega) (by omega)) vl_X12_158 dX12_closedOf_93 o_164 rfl rfl (Nat.le_of_ble_eq_true rfl) ⟨(show (5 + 1 * r9) + 1 ≤ 5 + 1 * (r9 + 1) by omega), (show 8 + (7 + 11) + 40 * ((5 + 1 * r9)) ≤ 40 * (5 + 1 * (r9 + 1)) by omega)⟩ rfl rfl (Nat.le_of_ble_eq_true rfl) (Nat.le_of_ble_eq_true rfl) (fun r9 J_93 hq9 => ?_)
            obtain ⟨z_93, rfl, hz_93, m_93, g_93, h_93⟩ := hq9
            have q_93 := MG.tr q_65 g_93
            have f_93 := g_93.2.2.2
            have l_93 := g_93.1.2
            refine tz_goto (pc := 96) (tgt := 100) dX12_closedOf_96 (by decide) ?_
            refine tz_istore (pc := 100) (L2 := [_, _, _, _, _, _, _]) dX12_closedOf_100 (by decide) rfl ?_
            refine tz_iload_n (pc := 102) dX12_closedOf_102 rfl rfl ?_
            refine tz_iconst (pc := 103) dX12_closedOf_103 ?_
            refine tz_icmp_le (pc := 104) (tgt := 123) dX12_closedOf_104 (by decide) (by omega) (by decide) (fun h_104 => ?_) (fun h_104 => ?_)
            · refine tz_iconst (pc := 123) dX12_closedOf_123 ?_
              refine tz_istore (pc := 124) (L2 := [_, _, _, _, _, _, _]) dX12_closedOf_124 (by decide) rfl ?_
              refine tz_iload_n (pc := 126) dX12_closedOf_126 rfl rfl ?_
              refine tz_iconst (pc := 127) dX12_closedOf_127 ?_
              refine tz_icmp_le (pc := 128) (tgt := 147) dX12_closedOf_128 (by decide) (by omega) (by decide) (fun h_128 => ?_) (fun h_128 => ?_)
              · refine tz_iconst (pc := 147) dX12_closedOf_147 ?_
                refine tz_istore (pc := 148) (L2 := [_, _, _, _, _, _, _]) dX12_closedOf_148 (by decide) rfl ?_
                refine tz_aload_n (pc := 150) dX12_closedOf_150 rfl rfl ?_
                refine tz_iload_n (pc := 151) dX12_closedOf_151 rfl rfl ?_
                refine tz_iload (pc := 152) dX12_closedOf_152 rfl ?_
                refine tz_iload (pc := 154) dX12_closedOf_154 rfl ?_
                refine tz_iload (pc := 156) dX12_closedOf_156 rfl ?_
                have l0_158 := (q_93).1.2
                have t0_158 := (q_93).1.1.told
                refine tz_cV (pc := 158) (m_remade hl n _ _ _ _ _ (by omega) (by omega) (by omega) (by omega) b r d s m_93 (q_93).1.1 (by omega) (fun q9 => by have e9 := (q_93).ar ht9 ((q_93).2.2.1.2.2.2 170 rfl); rw [e9]; omega)) vl_X12_152 dX12_closedOf_158 o_164 rfl rfl (Nat.le_of_ble_eq_true rfl) ⟨(show 3 + 1 ≤ 5 + 1 * (r9 + 1) by omega), (show 8 + (5 + 11) + 40 * (3) ≤ 40 * (5 + 1 * (r9 + 1)) by omega)⟩ rfl rfl (Nat.le_of_ble_eq_true rfl) (Nat.le_of_ble_eq_true rfl) (fun r9 J_158 hq9 => ?_)
                obtain ⟨z_158, rfl, hz_158, m_158, g_158, h_158⟩ := hq9
                have q_158 := MG.tr q_93 g_158
                have f_158 := g_158.2.2.2
                have l_158 := g_158.1.2
                exact tz_iret (pc := 161) (z := z_158) dX12_closedOf_161 rfl (Nat.le_of_ble_eq_true rfl) (Nat.le_of_ble_eq_true rfl) ⟨Nat.le_refl _, Nat.le_add_right _ _⟩ ⟨_, rfl, (by omega), ⟨m_158, q_158, h_158⟩⟩
              · refine tz_aload_n (pc := 131) dX12_closedOf_131 rfl rfl ?_
                refine tz_aload_n (pc := 132) dX12_closedOf_132 rfl rfl ?_
                refine tz_iload_n (pc := 133) dX12_closedOf_133 rfl rfl ?_
                refine tz_iconst (pc := 134) dX12_closedOf_134 ?_
                have l_135 := (q_93).1.2
                have tt_135 := (q_93).1.1.told
                refine tz_cV (pc := 135) (m_arg hl n _ _ _ (by omega) (by decide) b r d s m_93 (q_93).1.1 (by omega) (by omega)) vl_X12_88 dX12_closedOf_135 o_164 rfl rfl (Nat.le_of_ble_eq_true rfl) ⟨(show 0 + 1 ≤ 5 + 1 * (r9 + 1) by omega), (show 8 + (3 + 11) + 40 * (0) ≤ 40 * (5 + 1 * (r9 + 1)) by omega)⟩ rfl rfl (Nat.le_of_ble_eq_true rfl) (Nat.le_of_ble_eq_true rfl) (fun r9 J_135 hq9 => ?_)
                obtain ⟨z_135, rfl, hz_135, rfl, hv_135⟩ := hq9
                have he_135 : J_93 167 (3 * (b + t) + 2) = J 167 (3 * (b + t) + 2) := ((q_93).2.1 t ht9.1 ht9.2).2 2 (by omega) (by omega)
                rw [he_135] at hv_135
                obtain rfl : J 167 (3 * (b + t) + 2) = z_135 := hv_135
                refine tz_iload_n (pc := 138) dX12_closedOf_138 rfl rfl ?_
                refine tz_iconst (pc := 139) dX12_closedOf_139 ?_
                refine tz_iadd (pc := 140) (v := y + 1) dX12_closedOf_140 rfl ?_
                have l0_141 := (q_93).1.2
                have t0_141 := (q_93).1.1.told
                have a_141 := hM.arg (t := t) (i := 2) ht9 (by omega)
                refine tz_cV (pc := 141) (ih _ _ _ (by omega) (by omega) b r d s m_93 m0 q O rk S (q_93).1.1 (by omega) (by omega) (hC.mg hm (q_93)) (fun v o9 => by rw [(q_93).2.2.1.2.2.2 175 rfl]; exact hq v ((hC.1 t ht.1 ht.2).2 2 v (by omega) o9)) (by omega) (by omega)) vl_X12_158 dX12_closedOf_141 o_164 rfl rfl (Nat.le_of_ble_eq_true rfl) ⟨(show (5 + 1 * r9) + 1 ≤ 5 + 1 * (r9 + 1) by omega), (show 8 + (7 + 11) + 40 * ((5 + 1 * r9)) ≤ 40 * (5 + 1 * (r9 + 1)) by omega)⟩ rfl rfl (Nat.le_of_ble_eq_true rfl) (Nat.le_of_ble_eq_true rfl) (fun r9 J_141 hq9 => ?_)
                obtain ⟨z_141, rfl, hz_141, m_141, g_141, h_141⟩ := hq9
                have q_141 := MG.tr q_93 g_141
                have f_141 := g_141.2.2.2
                have l_141 := g_141.1.2
                refine tz_goto (pc := 144) (tgt := 148) dX12_closedOf_144 (by decide) ?_
                refine tz_istore (pc := 148) (L2 := [_, _, _, _, _, _, _]) dX12_closedOf_148 (by decide) rfl ?_
                refine tz_aload_n (pc := 150) dX12_closedOf_150 rfl rfl ?_
                refine tz_iload_n (pc := 151) dX12_closedOf_151 rfl rfl ?_
                refine tz_iload (pc := 152) dX12_closedOf_152 rfl ?_
                refine tz_iload (pc := 154) dX12_closedOf_154 rfl ?_
                refine tz_iload (pc := 156) dX12_closedOf_156 rfl ?_
                have l0_158 := (q_141).1.2
                have t0_158 := (q_141).1.1.told
                refine tz_cV (pc := 158) (m_remade hl n _ _ _ _ _ (by omega) (by omega) (by omega) (by omega) b r d s m_141 (q_141).1.1 (by omega) (fun q9 => by have e9 := (q_141).ar ht9 ((q_141).2.2.1.2.2.2 170 rfl); rw [e9]; omega)) vl_X12_152 dX12_closedOf_158 o_164 rfl rfl (Nat.le_of_ble_eq_true rfl) ⟨(show 3 + 1 ≤ 5 + 1 * (r9 + 1) by omega), (show 8 + (5 + 11) + 40 * (3) ≤ 40 * (5 + 1 * (r9 + 1)) by omega)⟩ rfl rfl (Nat.le_of_ble_eq_true rfl) (Nat.le_of_ble_eq_true rfl) (fun r9 J_158 hq9 => ?_)
                obtain ⟨z_158, rfl, hz_158, m_158, g_158, h_158⟩ := hq9
                have q_158 := MG.tr q_141 g_158
                have f_158 := g_158.2.2.2
                have l_158 := g_158.1.2
                exact tz_iret (pc := 161) (z := z_158) dX12_closedOf_161 rfl (Nat.le_of_ble_eq_true rfl) (Nat.le_of_ble_eq_true rfl) ⟨Nat.le_refl _, Nat.le_add_right _ _⟩ ⟨_, rfl, (by omega), ⟨m_158, q_158, h_158⟩⟩
            · refine tz_aload_n (pc := 107) dX12_closedOf_107 rfl rfl ?_
              refine tz_aload_n (pc := 108) dX12_closedOf_108 rfl rfl ?_
              refine tz_iload_n (pc := 109) dX12_closedOf_109 rfl rfl ?_
              refine tz_iconst (pc := 110) dX12_closedOf_110 ?_
              have l_111 := (q_93).1.2
              have tt_111 := (q_93).1.1.told
              refine tz_cV (pc := 111) (m_arg hl n _ _ _ (by omega) (by decide) b r d s m_93 (q_93).1.1 (by omega) (by omega)) vl_X12_88 dX12_closedOf_111 o_164 rfl rfl (Nat.le_of_ble_eq_true rfl) ⟨(show 0 + 1 ≤ 5 + 1 * (r9 + 1) by omega), (show 8 + (3 + 11) + 40 * (0) ≤ 40 * (5 + 1 * (r9 + 1)) by omega)⟩ rfl rfl (Nat.le_of_ble_eq_true rfl) (Nat.le_of_ble_eq_true rfl) (fun r9 J_111 hq9 => ?_)
              obtain ⟨z_111, rfl, hz_111, rfl, hv_111⟩ := hq9
              have he_111 : J_93 167 (3 * (b + t) + 1) = J 167 (3 * (b + t) + 1) := ((q_93).2.1 t ht9.1 ht9.2).2 1 (by omega) (by omega)
              rw [he_111] at hv_111
              obtain rfl : J 167 (3 * (b + t) + 1) = z_111 := hv_111
              refine tz_iload_n (pc := 114) dX12_closedOf_114 rfl rfl ?_
              refine tz_iconst (pc := 115) dX12_closedOf_115 ?_
              refine tz_iadd (pc := 116) (v := y + 1) dX12_closedOf_116 rfl ?_
              have l0_117 := (q_93).1.2
              have t0_117 := (q_93).1.1.told
              have a_117 := hM.arg (t := t) (i := 1) ht9 (by omega)
              refine tz_cV (pc := 117) (ih _ _ _ (by omega) (by omega) b r d s m_93 m0 q O rk S (q_93).1.1 (by omega) (by omega) (hC.mg hm (q_93)) (fun v o9 => by rw [(q_93).2.2.1.2.2.2 175 rfl]; exact hq v ((hC.1 t ht.1 ht.2).2 1 v (by omega) o9)) (by omega) (by omega)) vl_X12_158 dX12_closedOf_117 o_164 rfl rfl (Nat.le_of_ble_eq_true rfl) ⟨(show (5 + 1 * r9) + 1 ≤ 5 + 1 * (r9 + 1) by omega), (show 8 + (7 + 11) + 40 * ((5 + 1 * r9)) ≤ 40 * (5 + 1 * (r9 + 1)) by omega)⟩ rfl rfl (Nat.le_of_ble_eq_true rfl) (Nat.le_of_ble_eq_true rfl) (fun r9 J_117 hq9 => ?_)
              obtain ⟨z_117, rfl, hz_117, m_117, g_117, h_117⟩ := hq9
              have q_117 := MG.tr q_93 g_117
              have f_117 := g_117.2.2.2
              have l_117 := g_117.1.2
              refine tz_goto (pc := 120) (tgt := 124) dX12_closedOf_120 (by decide) ?_
              refine tz_istore (pc := 124) (L2 := [_, _, _, _, _, _, _]) dX12_closedOf_124 (by decide) rfl ?_
              refine tz_iload_n (pc := 126) dX12_closedOf_126 rfl rfl ?_
              refine tz_iconst (pc := 127) dX12_closedOf_127 ?_
              refine tz_icmp_le (pc := 128) (tgt := 147) dX12_closedOf_128 (by decide) (by omega) (by decide) (fun h_128 => ?_) (fun h_128 => ?_)
              · refine tz_iconst (pc := 147) dX12_closedOf_147 ?_
                refine tz_istore (pc := 148) (L2 := [_, _, _, _, _, _, _]) dX12_closedOf_148 (by decide) rfl ?_
                refine tz_aload_n (pc := 150) dX12_closedOf_150 rfl rfl ?_
                refine tz_iload_n (pc := 151) dX12_closedOf_151 rfl rfl ?_
                refine tz_iload (pc := 152) dX12_closedOf_152 rfl ?_
                refine tz_iload (pc := 154) dX12_closedOf_154 rfl ?_
                refine tz_iload (pc := 156) dX12_closedOf_156 rfl ?_
                have l0_158 := (q_117).1.2
                have t0_158 := (q_117).1.1.told
                refine tz_cV (pc := 158) (m_remade hl n _ _ _ _ _ (by omega) (by omega) (by omega) (by omega) b r d s m_117 (q_117).1.1 (by omega) (fun q9 => by have e9 := (q_117).ar ht9 ((q_117).2.2.1.2.2.2 170 rfl); rw [e9]; omega)) vl_X12_152 dX12_closedOf_158 o_164 rfl rfl (Nat.le_of_ble_eq_true rfl) ⟨(show 3 + 1 ≤ 5 + 1 * (r9 + 1) by omega), (show 8 + (5 + 11) + 40 * (3) ≤ 40 * (5 + 1 * (r9 + 1)) by omega)⟩ rfl rfl (Nat.le_of_ble_eq_true rfl) (Nat.le_of_ble_eq_true rfl) (fun r9 J_158 hq9 => ?_)
                obtain ⟨z_158, rfl, hz_158, m_158, g_158, h_158⟩ := hq9
                have q_158 := MG.tr q_117 g_158
                have f_158 := g_158.2.2.2
                have l_158 := g_158.1.2
                exact tz_iret (pc := 161) (z := z_158) dX12_closedOf_161 rfl (Nat.le_of_ble_eq_true rfl) (Nat.le_of_ble_eq_true rfl) ⟨Nat.le_refl _, Nat.le_add_right _ _⟩ ⟨_, rfl, (by omega), ⟨m_158, q_158, h_158⟩⟩
              · refine tz_aload_n (pc := 131) dX12_closedOf_131 rfl rfl ?_
                refine tz_aload_n (pc := 132) dX12_closedOf_132 rfl rfl ?_
                refine tz_iload_n (pc := 133) dX12_closedOf_133 rfl rfl ?_
                refine tz_iconst (pc := 134) dX12_closedOf_134 ?_
                have l_135 := (q_117).1.2
                have tt_135 := (q_117).1.1.told
                refine tz_cV (pc := 135) (m_arg hl n _ _ _ (by omega) (by decide) b r d s m_117 (q_117).1.1 (by omega) (by omega)) vl_X12_88 dX12_closedOf_135 o_164 rfl rfl (Nat.le_of_ble_eq_true rfl) ⟨(show 0 + 1 ≤ 5 + 1 * (r9 + 1) by omega), (show 8 + (3 + 11) + 40 * (0) ≤ 40 * (5 + 1 * (r9 + 1)) by omega)⟩ rfl rfl (Nat.le_of_ble_eq_true rfl) (Nat.le_of_ble_eq_true rfl) (fun r9 J_135 hq9 => ?_)
                obtain ⟨z_135, rfl, hz_135, rfl, hv_135⟩ := hq9
                have he_135 : J_117 167 (3 * (b + t) + 2) = J 167 (3 * (b + t) + 2) := ((q_117).2.1 t ht9.1 ht9.2).2 2 (by omega) (by omega)
                rw [he_135] at hv_135
                obtain rfl : J 167 (3 * (b + t) + 2) = z_135 := hv_135
                refine tz_iload_n (pc := 138) dX12_closedOf_138 rfl rfl ?_
                refine tz_iconst (pc := 139) dX12_closedOf_139 ?_
                refine tz_iadd (pc := 140) (v := y + 1) dX12_closedOf_140 rfl ?_
                have l0_141 := (q_117).1.2
                have t0_141 := (q_117).1.1.told
                have a_141 := hM.arg (t := t) (i := 2) ht9 (by omega)
                refine tz_cV (pc := 141) (ih _ _ _ (by omega) (by omega) b r d s m_117 m0 q O rk S (q_117).1.1 (by omega) (by omega) (hC.mg hm (q_117)) (fun v o9 => by rw [(q_117).2.2.1.2.2.2 175 rfl]; exact hq v ((hC.1 t ht.1 ht.2).2 2 v (by omega) o9)) (by omega) (by omega)) vl_X12_158 dX12_closedOf_141 o_164 rfl rfl (Nat.le_of_ble_eq_true rfl) ⟨(show (5 + 1 * r9) + 1 ≤ 5 + 1 * (r9 + 1) by omega), (show 8 + (7 + 11) + 40 * ((5 + 1 * r9)) ≤ 40 * (5 + 1 * (r9 + 1)) by omega)⟩ rfl rfl (Nat.le_of_ble_eq_true rfl) (Nat.le_of_ble_eq_true rfl) (fun r9 J_141 hq9 => ?_)
                obtain ⟨z_141, rfl, hz_141, m_141, g_141, h_141⟩ := hq9
                have q_141 := MG.tr q_117 g_141
                have f_141 := g_141.2.2.2
                have l_141 := g_141.1.2
                refine tz_goto (pc := 144) (tgt := 148) dX12_closedOf_144 (by decide) ?_
                refine tz_istore (pc := 148) (L2 := [_, _, _, _, _, _, _]) dX12_closedOf_148 (by decide) rfl ?_
                refine tz_aload_n (pc := 150) dX12_closedOf_150 rfl rfl ?_
                refine tz_iload_n (pc := 151) dX12_closedOf_151 rfl rfl ?_
                refine tz_iload (pc := 152) dX12_closedOf_152 rfl ?_
                refine tz_iload (pc := 154) dX12_closedOf_154 rfl ?_
                refine tz_iload (pc := 156) dX12_closedOf_156 rfl ?_
                have l0_158 := (q_141).1.2
                have t0_158 := (q_141).1.1.told
                refine tz_cV (pc := 158) (m_remade hl n _ _ _ _ _ (by omega) (by omega) (by omega) (by omega) b r d s m_141 (q_141).1.1 (by omega) (fun q9 => by have e9 := (q_141).ar ht9 ((q_141).2.2.1.2.2.2 170 rfl); rw [e9]; omega)) vl_X12_152 dX12_closedOf_158 o_164 rfl rfl (Nat.le_of_ble_eq_true rfl) ⟨(show 3 + 1 ≤ 5 + 1 * (r9 + 1) by omega), (show 8 + (5 + 11) + 40 * (3) ≤ 40 * (5 + 1 * (r9 + 1)) by omega)⟩ rfl rfl (Nat.le_of_ble_eq_true rfl) (Nat.le_of_ble_eq_true rfl) (fun r9 J_158 hq9 => ?_)
                obtain ⟨z_158, rfl, hz_158, m_158, g_158, h_158⟩ := hq9
                have q_158 := MG.tr q_141 g_158
                have f_158 := g_158.2.2.2
                have l_158 := g_158.1.2
                exact tz_iret (pc := 161) (z := z_158) dX12_closedOf_161 rfl (Nat.le_of_ble_eq_true rfl) (Nat.le_of_ble_eq_true rfl) ⟨Nat.le_refl _, Nat.le_add_right _ _⟩ ⟨_, rfl, (by omega), ⟨m_158, q_158, h_158⟩⟩
        · refine tz_if_eqF (pc := 68) (tgt := 73) (by decide) dX12_closedOf_68 (by decide) (by decide) ?_
          refine tz_iconst (pc := 71) dX12_closedOf_71 ?_
          exact tz_iret (pc := 72) (z := 0) dX12_closedOf_72 rfl (Nat.le_of_ble_eq_true rfl) (Nat.le_of_ble_eq_true rfl) ⟨Nat.le_refl _, Nat.le_add_right _ _⟩ ⟨_, rfl, (by decide), ⟨m, q_65, fun q9 => by omega⟩⟩
    · refine tz_iconst (pc := 7) dX12_closedOf_7 ?_
      exact tz_iret (pc := 8) (z := 0) dX12_closedOf_8 rfl (Nat.le_of_ble_eq_true rfl) (Nat.le_of_ble_eq_true rfl) ⟨Nat.le_refl _, Nat.le_add_right _ _⟩ ⟨_, rfl, (by decide), ⟨m, g0, fun q9 => by omega⟩⟩

theorem m_closed {l : Launch} {G : tb_G} (hl : l.stackTraces = false) (n : Nat) (J : zJ) (t : Int) (hr_t : -2147483648 ≤ t ∧ t < 2147483648) (b r d s m : Int) (hM : MS J b r d s m) (ht : 0 ≤ t ∧ t < m) (hy : gOK (J 175) m) (hR : NR J b d t) : tz_Ok l G M_X12_closedOf 22 0 0 [.ref 164, zi t, zi 1] n J (zqi (fun z J' => ∃ m', MG [] [] (fun _ => false) J' J b r d s m m' ∧ (J' 164 21 = 0 → 0 ≤ z ∧ z < m'))) zN := by
  obtain ⟨rk, S, h1, h2, h3⟩ := hR
  exact m_closedR hl n 17 J t 1 hr_t (by decide) b r d s m m 9 (Occ J b d) rk S hM (Int.le_refl _) ht ⟨fun u a c => ⟨fun q => Occ.v q, fun i v hi o => Occ.a hi o⟩, hy, h3⟩ (fun v o => ⟨h2 v o, fun _ => Nat.lt_of_le_of_lt (h1 v) (by decide)⟩) (by decide) (by decide)
