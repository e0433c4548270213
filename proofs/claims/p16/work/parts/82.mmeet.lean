theorem f171_up {J1 J : zJ} {x v : Int} (f : zOf (zbut [171]) J1 J ∧ ∀ k, ¬ k = x → J1 171 k = J 171 k) : zOf (zbut [171]) (zup J1 171 x v) J ∧ ∀ k, ¬ k = x → zup J1 171 x v 171 k = J 171 k := ⟨zOf.up rfl f.1, fun k hk => (zup_ne hk).trans (f.2 k hk)⟩
theorem f171_end {J1 J : zJ} {x : Int} (f : zOf (zbut [171]) J1 J ∧ ∀ k, ¬ k = x → J1 171 k = J 171 k) : J = zup J1 171 x (J 171 x) := by
  funext c
  by_cases e : c = 171
  · subst e
    funext k
    by_cases ek : k = x
    · subst ek
      exact zup_at.symm
    · rw [zup_ne ek]
      exact (f.2 k ek).symm
  · rw [zup_nc e]
    exact (f.1 c (by simp [zbut, e])).symm
set_option maxHeartbeats 4000000 in
set_option maxRecDepth 100000 in
theorem m_fits {l : Launch} {G : tb_G} (hl : l.stackTraces = false) (n : Nat) (J : zJ) (x : Int) (y : Int) (hr_x : -2147483648 ≤ x ∧ x < 2147483648) (hr_y : -2147483648 ≤ y ∧ y < 2147483648) (b r d s m : Int) (hM : MS J b r d s m) (hR : MR (J 165) m) (hx : 0 ≤ x ∧ x < 20) : tz_Ok l G M_X12_fits 20 0 0 [.ref 164, zi x, zi y] n J (zqi (fun z J' => J = J')) zN := by
  refine tz_Ok.of hl (by decide +kernel) rfl (tb_c1 rfl) (Nat.le_of_ble_eq_true rfl) ?_
  show tz_At l G M_X12_fits (tb_rm 20 0 0) none (tb_ZM G 0 0 (zQ n 0 (zqi (fun z J' => J = J'))) (zX n 0 zN)) 0 0 n J 0 [some (.ref 164), some (zi x), some (zi y), none, none, none, none, none, none] []
  obtain ⟨hM1, hM2, hM3, hM4, hM5, hM6⟩ := id hM
  have hT := hM.told
  have hR1 := hR.1
  refine tz_aload_n (pc := 0) dX12_fits_0 rfl rfl ?_
  refine tz_fR (pc := 1) dX12_fits_1 fl_X12_28 r_164_6 ?_
  refine tz_iload_n (pc := 4) dX12_fits_4 rfl rfl ?_
  refine tz_aL (pc := 5) (z := x) (v := (J 171 x)) dX12_fits_5 a_171 rfl (by omega) rfl (fun r_5 => ?_)
  refine tz_istore_n (pc := 6) (L2 := [_, _, _, _, _, _, _, _, _]) dX12_fits_6 rfl (by decide) rfl ?_
  refine tz_iconst (pc := 7) dX12_fits_7 ?_
  refine tz_istore (pc := 8) (L2 := [_, _, _, _, _, _, _, _, _]) dX12_fits_8 (by decide) rfl ?_
  refine tz_iconst (pc := 10) dX12_fits_10 ?_
  refine tz_istore (pc := 11) (L2 := [_, _, _, _, _, _, _, _, _]) dX12_fits_11 (by decide) rfl ?_
  refine tz_iconst (pc := 13) dX12_fits_13 ?_
  refine tz_istore (pc := 14) (L2 := [_, _, _, _, _, _, _, _, _]) dX12_fits_14 (by decide) rfl ?_
  have loop16 : ∀ (f9 : Nat) (q : Int) (e : Int) (w : Int) (d7 : Option Value) (d8 : Option Value) (J1 : zJ), ((10 - w).toNat) < f9 → (0 ≤ q ∧ q ≤ w) → (-1 ≤ e ∧ e ≤ 9) → (1 ≤ w ∧ w ≤ 10) → (zOf (zbut [171]) J1 J ∧ ∀ k, ¬ k = x → J1 171 k = J 171 k) → tz_At l G M_X12_fits (tb_rm 20 0 0) none (tb_ZM G 0 0 (zQ n 0 (zqi (fun z J' => J = J'))) (zX n 0 zN)) 0 0 n J1 16 [some (.ref 164), some (zi x), some (zi y), some (zi (J 171 x)), some (zi q), some (zi e), some (zi w), d7, d8] [] := by
    intro f9
    induction f9 with
    | zero => intro q e w d7 d8 J1 hm9; exact absurd hm9 (Nat.not_lt_zero _)
    | succ f9 ih16 =>
      intro q e w d7 d8 J1 hm16 hq he hw f1
      refine tz_iload (pc := 16) dX12_fits_16 rfl ?_
      refine tz_bipush (pc := 18) dX12_fits_18 (by decide) ?_
      refine tz_icmp_gt (pc := 20) (tgt := 118) dX12_fits_20 (by decide) (by omega) (by decide) (fun h_20 => ?_) (fun h_20 => ?_)
      · refine tz_aload_n (pc := 118) dX12_fits_118 rfl rfl ?_
        refine tz_fR (pc := 119) dX12_fits_119 fl_X12_28 r_164_6 ?_
        refine tz_iload_n (pc := 122) dX12_fits_122 rfl rfl ?_
        refine tz_iload_n (pc := 123) dX12_fits_123 rfl rfl ?_
        refine tz_aS (pc := 124) (z := x) dX12_fits_124 a_171 rfl (by omega) (by omega) ?_
        refine tz_iload_n (pc := 125) dX12_fits_125 rfl rfl ?_
        refine tz_if_eq (pc := 126) (tgt := 134) dX12_fits_126 (by decide) (by omega) (fun h_126 => ?_) (fun h_126 => ?_)
        · refine tz_iload (pc := 134) dX12_fits_134 rfl ?_
          exact tz_iret (pc := 136) (z := q) dX12_fits_136 rfl (Nat.le_of_ble_eq_true rfl) (Nat.le_of_ble_eq_true rfl) ⟨Nat.le_refl _, Nat.le_add_right _ _⟩ ⟨_, rfl, (by omega), (f171_end f1)⟩
        · refine tz_iload (pc := 129) dX12_fits_129 rfl ?_
          refine tz_goto (pc := 131) (tgt := 136) dX12_fits_131 (by decide) ?_
          exact tz_iret (pc := 136) (z := e) dX12_fits_136 rfl (Nat.le_of_ble_eq_true rfl) (Nat.le_of_ble_eq_true rfl) ⟨Nat.le_refl _, Nat.le_add_right _ _⟩ ⟨_, rfl, (by omega), (f171_end f1)⟩
      · refine tz_aload_n (pc := 23) dX12_fits_23 rfl rfl ?_
        refine tz_fR (pc := 24) dX12_fits_24 fl_X12_28 r_164_6 ?_
        refine tz_iload_n (pc := 27) dX12_fits_27 rfl rfl ?_
        refine tz_iload (pc := 28) dX12_fits_28 rfl ?_
        refine tz_aS (pc := 30) (z := x) dX12_fits_30 a_171 rfl (by omega) (by omega) ?_
        refine tz_iconst (pc := 31) dX12_fits_31 ?_
        refine tz_istore (pc := 32) (L2 := [_, _, _, _, _, _, _, _, _]) dX12_fits_32 (by decide) rfl ?_
        refine tz_iconst (pc := 34) dX12_fits_34 ?_
        refine tz_istore (pc := 35) (L2 := [_, _, _, _, _, _, _, _, _]) dX12_fits_35 (by decide) rfl ?_
        have loop37 : ∀ (f9 : Nat) (g : Int) (k : Int), ((8 - k).toNat) < f9 → (g = 0 ∨ g = 1) → (0 ≤ k ∧ k ≤ 8) → tz_At l G M_X12_fits (tb_rm 20 0 0) none (tb_ZM G 0 0 (zQ n 0 (zqi (fun z J' => J = J'))) (zX n 0 zN)) 0 0 n (zup J1 171 x w) 37 [some (.ref 164), some (zi x), some (zi y), some (zi (J 171 x)), some (zi q), some (zi e), some (zi w), some (zi g), some (zi k)] [] := by
          intro f9
          induction f9 with
          | zero => intro g k hm9; exact absurd hm9 (Nat.not_lt_zero _)
          | succ f9 ih37 =>
            intro g k hm37 hg hk
            refine tz_iload (pc := 37) dX12_fits_37 rfl ?_
            refine tz_aload_n (pc := 39) dX12_fits_39 rfl rfl ?_
            refine tz_fR (pc := 40) dX12_fits_40 fl_X12_9 r_164_0 ?_
            refine tz_bipush (pc := 43) dX12_fits_43 (by decide) ?_
            refine tz_aL (pc := 45) (z := 9) (v := (J 165 9)) dX12_fits_45 a_165 rfl (by decide) (Eq.trans (congrFun (f1.1 165 rfl) 9) rfl) (fun r_45 => ?_)
            refine tz_icmp_ge (pc := 46) (tgt := 92) dX12_fits_46 (by decide) (by omega) (by omega) (fun h_46 => ?_) (fun h_46 => ?_)
            · refine tz_iload (pc := 92) dX12_fits_92 rfl ?_
              refine tz_if_ne (pc := 94) (tgt := 100) dX12_fits_94 (by decide) (by omega) (fun h_94 => ?_) (fun h_94 => ?_)
              · refine tz_iload (pc := 100) dX12_fits_100 rfl ?_
                refine tz_if_ne (pc := 102) (tgt := 109) dX12_fits_102 (by decide) (by omega) (fun h_102 => ?_) (fun h_102 => ?_)
                · refine tz_iinc (pc := 109) (z := q + 1) (L2 := [_, _, _, _, _, _, _, _, _]) dX12_fits_109 rfl (by omega) rfl ?_
                  refine tz_iinc (pc := 112) (z := w + 1) (L2 := [_, _, _, _, _, _, _, _, _]) dX12_fits_112 rfl (by omega) rfl ?_
                  refine tz_goto (pc := 115) (tgt := 16) dX12_fits_115 (by decide) ?_
                  exact ih16 _ _ (w + 1) _ _ _ (by omega) (by omega) (by omega) (by omega) (f171_up f1)
                · refine tz_iload (pc := 105) dX12_fits_105 rfl ?_
                  refine tz_istore (pc := 107) (L2 := [_, _, _, _, _, _, _, _, _]) dX12_fits_107 (by decide) rfl ?_
                  refine tz_iinc (pc := 109) (z := q + 1) (L2 := [_, _, _, _, _, _, _, _, _]) dX12_fits_109 rfl (by omega) rfl ?_
                  refine tz_iinc (pc := 112) (z := w + 1) (L2 := [_, _, _, _, _, _, _, _, _]) dX12_fits_112 rfl (by omega) rfl ?_
                  refine tz_goto (pc := 115) (tgt := 16) dX12_fits_115 (by decide) ?_
                  exact ih16 _ _ (w + 1) _ _ _ (by omega) (by omega) (by omega) (by omega) (f171_up f1)
              · refine tz_goto (pc := 97) (tgt := 112) dX12_fits_97 (by decide) ?_
                refine tz_iinc (pc := 112) (z := w + 1) (L2 := [_, _, _, _, _, _, _, _, _]) dX12_fits_112 rfl (by omega) rfl ?_
                refine tz_goto (pc := 115) (tgt := 16) dX12_fits_115 (by decide) ?_
                exact ih16 _ _ (w + 1) _ _ _ (by omega) (by omega) (by omega) (by omega) (f171_up f1)
            · refine tz_iload (pc := 49) dX12_fits_49 rfl ?_
              refine tz_if_eq (pc := 51) (tgt := 92) dX12_fits_51 (by decide) (by omega) (fun h_51 => ?_) (fun h_51 => ?_)
              · refine tz_iload (pc := 92) dX12_fits_92 rfl ?_
                refine tz_if_ne (pc := 94) (tgt := 100) dX12_fits_94 (by decide) (by omega) (fun h_94 => ?_) (fun h_94 => ?_)
                · refine tz_iload (pc := 100) dX12_fits_100 rfl ?_
                  refine tz_if_ne (pc := 102) (tgt := 109) dX12_fits_102 (by decide) (by omega) (fun h_102 => ?_) (fun h_102 => ?_)
                  · refine tz_iinc (pc := 109) (z := q + 1) (L2 := [_, _, _, _, _, _, _, _, _]) dX12_fits_109 rfl (by omega) rfl ?_
                    refine tz_iinc (pc := 112) (z := w + 1) (L2 := [_, _, _, _, _, _, _, _, _]) dX12_fits_112 rfl (by omega) rfl ?_
                    refine tz_goto (pc := 115) (tgt := 16) dX12_fits_115 (by decide) ?_
                    exact ih16 _ _ (w + 1) _ _ _ (by omega) (by omega) (by omega) (by omega) (f171_up f1)
                  · refine tz_iload (pc := 105) dX12_fits_105 rfl ?_
                    refine tz_istore (pc := 107) (L2 := [_, _, _, _, _, _, _, _, _]) dX12_fits_107 (by decide) rfl ?_
                    refine tz_iinc (pc := 109) (z := q + 1) (L2 := [_, _, _, _, _, _, _, _, _]) dX12_fits_109 rfl (by omega) rfl ?_
                    refine tz_iinc (pc := 112) (z := w + 1) (L2 := [_, _, _, _, _, _, _, _, _]) dX12_fits_112 rfl (by omega) rfl ?_
                    refine tz_goto (pc := 115) (tgt := 16) dX12_fits_115 (by decide) ?_
                    exact ih16 _ _ (w + 1) _ _ _ (by omega) (by omega) (by omega) (by omega) (f171_up f1)
                · refine tz_goto (pc := 97) (tgt := 112) dX12_fits_97 (by decide) ?_
                  refine tz_iinc (pc := 112) (z := w + 1) (L2 := [_, _, _, _, _, _, _, _, _]) dX12_fits_112 rfl (by omega) rfl ?_
                  refine tz_goto (pc := 115) (tgt := 16) dX12_fits_115 (by decide) ?_
                  exact ih16 _ _ (w + 1) _ _ _ (by omega) (by omega) (by omega) (by omega) (f171_up f1)
              · refine tz_aload_n (pc := 54) dX12_fits_54 rfl rfl ?_
                refine tz_aload_n (pc := 55) dX12_fits_55 rfl rfl ?_
                refine tz_fR (pc := 56) dX12_fits_56 fl_X12_9 r_164_0 ?_
                refine tz_bipush (pc := 59) dX12_fits_59 (by decide) ?_
                refine tz_iconst (pc := 61) dX12_fits_61 ?_
                refine tz_iload (pc := 62) dX12_fits_62 rfl ?_
                refine tz_imul (pc := 64) (v := 2 * k) dX12_fits_64 rfl ?_
                refine tz_iadd (pc := 65) (v := 10 + (2 * k)) dX12_fits_65 rfl ?_
                refine tz_aL (pc := 66) (z := (10 + (2 * k))) (v := (J 165 (10 + (2 * k)))) dX12_fits_66 a_165 rfl (by omega) (Eq.trans (congrFun (f1.1 165 rfl) (10 + (2 * k))) rfl) (fun r_66 => ?_)
                refine tz_aload_n (pc := 67) dX12_fits_67 rfl rfl ?_
                refine tz_fR (pc := 68) dX12_fits_68 fl_X12_9 r_164_0 ?_
                refine tz_bipush (pc := 71) dX12_fits_71 (by decide) ?_
                refine tz_iconst (pc := 73) dX12_fits_73 ?_
                refine tz_iload (pc := 74) dX12_fits_74 rfl ?_
                refine tz_imul (pc := 76) (v := 2 * k) dX12_fits_76 rfl ?_
                refine tz_iadd (pc := 77) (v := 10 + (2 * k)) dX12_fits_77 rfl ?_
                refine tz_iconst (pc := 78) dX12_fits_78 ?_
                refine tz_iadd (pc := 79) (v := (10 + (2 * k)) + 1) dX12_fits_79 rfl ?_
                refine tz_aL (pc := 80) (z := ((10 + (2 * k)) + 1)) (v := (J 165 ((10 + (2 * k)) + 1))) dX12_fits_80 a_165 rfl (by omega) (Eq.trans (congrFun (f1.1 165 rfl) ((10 + (2 * k)) + 1)) rfl) (fun r_80 => ?_)
                have hr9 := hR.2 k (by omega) (by omega)
                refine tz_cV (pc := 81) (m_greater hl n _ _ _ (by omega) (by omega) b r d s m (hM.c1 (f171_up (v := w) f1).1 (by decide)) (by omega) (by omega)) vl_X12_142 dX12_fits_81 o_164 rfl rfl (Nat.le_of_ble_eq_true rfl) ⟨(Nat.le_of_ble_eq_true rfl), (Nat.le_of_ble_eq_true rfl)⟩ rfl rfl (Nat.le_of_ble_eq_true rfl) (Nat.le_of_ble_eq_true rfl) (fun r9 J_81 hq9 => ?_)
                obtain ⟨z_81, rfl, hz_81, rfl, b2⟩ := hq9
                refine tz_istore (pc := 84) (L2 := [_, _, _, _, _, _, _, _, _]) dX12_fits_84 (by decide) rfl ?_
                refine tz_iinc (pc := 86) (z := k + 1) (L2 := [_, _, _, _, _, _, _, _, _]) dX12_fits_86 rfl (by omega) rfl ?_
                refine tz_goto (pc := 89) (tgt := 37) dX12_fits_89 (by decide) ?_
                exact ih37 _ (k + 1) (by omega) (by omega) (by omega)
        exact loop37 _ 1 0 (Nat.lt_succ_self _) (by omega) (by omega)
  exact loop16 _ 0 (-1) 1 none none _ (Nat.lt_succ_self _) (by omega) (by omega) (by omega) ⟨zOf.rf, fun _ _ => rfl⟩

theorem mmsz_cl {J' J : zJ} {b d t : Int} (f : zOf (zbut [164, 177, 178, 179, 180]) J' J) : msz J' b d t = msz J b d t := by
  have e : mar J' b d = mar J b d := funext fun t => mar_cl f
  unfold msz
  rw [e, show mag J' b = mag J b by unfold mag; rw [f 167 rfl]]
set_option maxHeartbeats 4000000 in
set_option maxRecDepth 100000 in
theorem m_meet {l : Launch} {G : tb_G} (hl : l.stackTraces = false) (n : Nat) (J : zJ) (x : Int) (hr_x : -2147483648 ≤ x ∧ x < 2147483648) (b r d s m : Int) (hM : MS J b r d s m) (hR : MR (J 165) m) : tz_Ok l G M_X12_meetings 809 0 0 [.ref 164, zi x] n J (zqi (fun z J' => zOf (zbut [164, 177, 178, 179, 180]) J' J ∧ ∀ k, ¬ k = 30 → J' 164 k = J 164 k)) zN := by
  refine tz_Ok.of hl (by decide +kernel) rfl (tb_c1 rfl) (Nat.le_of_ble_eq_true rfl) ?_
  show tz_At l G M_X12_meetings (tb_rm 809 0 0) none (tb_ZM G 0 0 (zQ n 0 (zqi (fun z J' => zOf (zbut [164, 177, 178, 179, 180]) J' J ∧ ∀ k, ¬ k = 30 → J' 164 k = J 164 k))) (zX n 0 zN)) 0 0 n J 0 [some (.ref 164), some (zi x), none, none, none, none, none, none] []
  obtain ⟨hM1, hM2, hM3, hM4, hM5, hM6⟩ := id hM
  have hT := hM.told
  have hR1 := hR.1
  refine tz_iconst (pc := 0) dX12_meetings_0 ?_
  refine tz_istore_n (pc := 1) (L2 := [_, _, _, _, _, _, _, _]) dX12_meetings_1 rfl (by decide) rfl ?_
  refine tz_iconst (pc := 2) dX12_meetings_2 ?_
  refine tz_istore_n (pc := 3) (L2 := [_, _, _, _, _, _, _, _]) dX12_meetings_3 rfl (by decide) rfl ?_
  have loop4 : ∀ (f9 : Nat) (q : Int) (k : Int) (d4 : Option Value) (d5 : Option Value) (d6 : Option Value) (d7 : Option Value) (J1 : zJ), ((8 - k).toNat) < f9 → (0 ≤ q ∧ q ≤ 2912 * k) → (0 ≤ k ∧ k ≤ 8) → (zOf (zbut [164, 177, 178, 179, 180]) J1 J ∧ ∀ k, ¬ k = 30 → J1 164 k = J 164 k) → tz_At l G M_X12_meetings (tb_rm 809 0 0) none (tb_ZM G 0 0 (zQ n 0 (zqi (fun z J' => zOf (zbut [164, 177, 178, 179, 180]) J' J ∧ ∀ k, ¬ k = 30 → J' 164 k = J 164 k))) (zX n 0 zN)) 0 0 n J1 4 [some (.ref 164), some (zi x), some (zi q), some (zi k), d4, d5, d6, d7] [] := by
    intro f9
    induction f9 with
    | zero => intro q k d4 d5 d6 d7 J1 hm9; exact absurd hm9 (Nat.not_lt_zero _)
    | succ f9 ih4 =>
      intro q k d4 d5 d6 d7 J1 hm4 hq hk f1
      refine tz_iload_n (pc := 4) dX12_meetings_4 rfl rfl ?_
      refine tz_aload_n (pc := 5) dX12_meetings_5 rfl rfl ?_
      refine tz_fR (pc := 6) dX12_meetings_6 fl_X12_9 r_164_0 ?_
      refine tz_bipush (pc := 9) dX12_meetings_9 (by decide) ?_
      refine tz_aL (pc := 11) (z := 9) (v := (J 165 9)) dX12_meetings_11 a_165 rfl (by decide) (Eq.trans (congrFun (f1.1 165 rfl) 9) rfl) (fun r_11 => ?_)
      refine tz_icmp_ge (pc := 12) (tgt := 151) dX12_meetings_12 (by decide) (by omega) (by omega) (fun h_12 => ?_) (fun h_12 => ?_)
      · refine tz_iload_n (pc := 151) dX12_meetings_151 rfl rfl ?_
        refine tz_if_eq (pc := 152) (tgt := 159) dX12_meetings_152 (by decide) (by omega) (fun h_152 => ?_) (fun h_152 => ?_)
        · refine tz_iload_n (pc := 159) dX12_meetings_159 rfl rfl ?_
          exact tz_iret (pc := 160) (z := q) dX12_meetings_160 rfl (Nat.le_of_ble_eq_true rfl) (Nat.le_of_ble_eq_true rfl) ⟨Nat.le_refl _, Nat.le_add_right _ _⟩ ⟨_, rfl, (by omega), f1⟩
        · refine tz_iconst (pc := 155) dX12_meetings_155 ?_
          refine tz_goto (pc := 156) (tgt := 160) dX12_meetings_156 (by decide) ?_
          exact tz_iret (pc := 160) (z := (-1)) dX12_meetings_160 rfl (Nat.le_of_ble_eq_true rfl) (Nat.le_of_ble_eq_true rfl) ⟨Nat.le_refl _, Nat.le_add_right _ _⟩ ⟨_, rfl, (by decide), f1⟩
      · refine tz_aload_n (pc := 15) dX12_meetings_15 rfl rfl ?_
        refine tz_fR (pc := 16) dX12_meetings_16 fl_X12_9 r_164_0 ?_
        refine tz_bipush (pc := 19) dX12_meetings_19 (by decide) ?_
        refine tz_iconst (pc := 21) dX12_meetings_21 ?_
        refine tz_iload_n (pc := 22) dX12_meetings_22 rfl rfl ?_
        refine tz_imul (pc := 23) (v := 2 * k) dX12_meetings_23 rfl ?_
        refine tz_iadd (pc := 24) (v := 10 + (2 * k)) dX12_meetings_24 rfl ?_
        refine tz_aL (pc := 25) (z := (10 + (2 * k))) (v := (J 165 (10 + (2 * k)))) dX12_meetings_25 a_165 rfl (by omega) (Eq.trans (congrFun (f1.1 165 rfl) (10 + (2 * k))) rfl) (fun r_25 => ?_)
        have hA := hR.2 k (by omega) (by omega)
        refine tz_istore (pc := 26) (L2 := [_, _, _, _, _, _, _, _]) dX12_meetings_26 (by decide) rfl ?_
        refine tz_iconst (pc := 28) dX12_meetings_28 ?_
        refine tz_istore (pc := 29) (L2 := [_, _, _, _, _, _, _, _]) dX12_meetings_29 (by decide) rfl ?_
        have loop31 : ∀ (f9 : Nat) (q2 : Int) (p : Int) (e6 : Option Value) (e7 : Option Value) (J2 : zJ), ((364 - p).toNat) < f9 → (0 ≤ q2 ∧ q2 ≤ 2912 * k + 8 * p) → (0 ≤ p ∧ p ≤ 364) → (zOf (zbut [164, 177, 178, 179, 180]) J2 J ∧ ∀ k, ¬ k = 30 → J2 164 k = J 164 k) → tz_At l G M_X12_meetings (tb_rm 809 0 0) none (tb_ZM G 0 0 (zQ n 0 (zqi (fun z J' => zOf (zbut [164, 177, 178, 179, 180]) J' J ∧ ∀ k, ¬ k = 30 → J' 164 k = J 164 k))) (zX n 0 zN)) 0 0 n J2 31 [some (.ref 164), some (zi x), some (zi q2), some (zi k), some (zi (J 165 (10 + (2 * k)))), some (zi p), e6, e7] [] := by
          intro f9
          induction f9 with
          | zero => intro q2 p e6 e7 J2 hm9; exact absurd hm9 (Nat.not_lt_zero _)
          | succ f9 ih31 =>
            intro q2 p e6 e7 J2 hm31 hq2 hp f2
            refine tz_iload (pc := 31) dX12_meetings_31 rfl ?_
            refine tz_aload_n (pc := 33) dX12_meetings_33 rfl rfl ?_
            refine tz_iload (pc := 34) dX12_meetings_34 rfl ?_
            refine tz_cV (pc := 36) (m_size hl n _ _ (by omega) b r d s m (hM.cl f2.1 f2.2) hA.1) vl_X12_114 dX12_meetings_36 o_164 rfl rfl (Nat.le_of_ble_eq_true rfl) ⟨(Nat.le_of_ble_eq_true rfl), (Nat.le_of_ble_eq_true rfl)⟩ rfl rfl (Nat.le_of_ble_eq_true rfl) (Nat.le_of_ble_eq_true rfl) (fun r9 J_36 hq9 => ?_)
            obtain ⟨zs, rfl, hz_36, rfl, hz⟩ := hq9
            rw [mmsz_cl (J := J) f2.1] at hz
            have hS := hM.sz hA.1
            refine tz_icmp_ge (pc := 39) (tgt := 145) dX12_meetings_39 (by decide) (by omega) (by omega) (fun h_39 => ?_) (fun h_39 => ?_)
            · refine tz_iinc (pc := 145) (z := k + 1) (L2 := [_, _, _, _, _, _, _, _]) dX12_meetings_145 rfl (by omega) rfl ?_
              refine tz_goto (pc := 148) (tgt := 4) dX12_meetings_148 (by decide) ?_
              exact ih4 _ (k + 1) _ _ _ _ _ (by omega) (by omega) (by omega) f2
            · refine tz_aload_n (pc := 42) dX12_meetings_42 rfl rfl ?_
              refine tz_iload (pc := 43) dX12_meetings_43 rfl ?_
              refine tz_iload (pc := 45) dX12_meetings_45 rfl ?_
              refine tz_cV (pc := 47) (m_place hl n _ _ _ (by omega) (by omega) b r d s m (hM.cl f2.1 f2.2) hA.1) vl_X12_139 dX12_meetings_47 o_164 rfl rfl (Nat.le_of_ble_eq_true rfl) ⟨(Nat.le_of_ble_eq_true rfl), (Nat.le_of_ble_eq_true rfl)⟩ rfl rfl (Nat.le_of_ble_eq_true rfl) (Nat.le_of_ble_eq_true rfl) (fun r9 J_47 hq9 => ?_)
              obtain ⟨zp, rfl, hz_47, rfl, hp1, hp2⟩ := hq9
              rw [mmsz_cl (J := J) f2.1] at hp2
              have hp3 := hp2 (by omega) (by omega)
              refine tz_istore (pc := 50) (L2 := [_, _, _, _, _, _, _, _]) dX12_meetings_50 (by decide) rfl ?_
              refine tz_iconst (pc := 52) dX12_meetings_52 ?_
              refine tz_istore (pc := 53) (L2 := [_, _, _, _, _, _, _, _]) dX12_meetings_53 (by decide) rfl ?_
              have loop55 : ∀ (f9 : Nat) (q3 : Int) (j : Int) (J3 : zJ), ((8 - j).toNat) < f9 → (0 ≤ q3 ∧ q3 ≤ 2912 * k + 8 * p + j) → (0 ≤ j ∧ j ≤ 8) → (zOf (zbut [164, 177, 178, 179, 180]) J3 J ∧ ∀ k, ¬ k = 30 → J3 164 k = J 164 k) → tz_At l G M_X12_meetings (tb_rm 809 0 0) none (tb_ZM G 0 0 (zQ n 0 (zqi (fun z J' => zOf (zbut [164, 177, 178, 179, 180]) J' J ∧ ∀ k, ¬ k = 30 → J' 164 k = J 164 k))) (zX n 0 zN)) 0 0 n J3 55 [some (.ref 164), some (zi x), some (zi q3), some (zi k), some (zi (J 165 (10 + (2 * k)))), some (zi p), some (zi zp), some (zi j)] [] := by
                intro f9
                induction f9 with
                | zero => intro q3 j J3 hm9; exact absurd hm9 (Nat.not_lt_zero _)
                | succ f9 ih55 =>
                  intro q3 j J3 hm55 hq3 hj f3
                  refine tz_iload (pc := 55) dX12_meetings_55 rfl ?_
                  refine tz_aload_n (pc := 57) dX12_meetings_57 rfl rfl ?_
                  refine tz_fR (pc := 58) dX12_meetings_58 fl_X12_9 r_164_0 ?_
                  refine tz_bipush (pc := 61) dX12_meetings_61 (by decide) ?_
                  refine tz_aL (pc := 63) (z := 9) (v := (J 165 9)) dX12_meetings_63 a_165 rfl (by decide) (Eq.trans (congrFun (f3.1 165 rfl) 9) rfl) (fun r_63 => ?_)
                  refine tz_icmp_ge (pc := 64) (tgt := 139) dX12_meetings_64 (by decide) (by omega) (by omega) (fun h_64 => ?_) (fun h_64 => ?_)
                  · refine tz_iinc (pc := 139) (z := p + 1) (L2 := [_, _, _, _, _, _, _, _]) dX12_meetings_139 rfl (by omega) rfl ?_
                    refine tz_goto (pc := 142) (tgt := 31) dX12_meetings_142 (by decide) ?_
                    exact ih31 _ (p + 1) _ _ _ (by omega) (by omega) (by omega) f3
                  · refine tz_aload_n (pc := 67) dX12_meetings_67 rfl rfl ?_
                    refine tz_iload (pc := 68) dX12_meetings_68 rfl ?_
                    refine tz_cV (pc := 70) (m_isVar hl n _ _ (by omega) b r d s m (hM.cl f3.1 f3.2) (by omega)) vl_X12_78 dX12_meetings_70 o_164 rfl rfl (Nat.le_of_ble_eq_true rfl) ⟨(Nat.le_of_ble_eq_true rfl), (Nat.le_of_ble_eq_true rfl)⟩ rfl rfl (Nat.le_of_ble_eq_true rfl) (Nat.le_of_ble_eq_true rfl) (fun r9 J_70 hq9 => ?_)
                    obtain ⟨zv, rfl, hz_70, rfl, hv⟩ := hq9
                    have hv2 : zv = 0 ∨ zv = 1 := by rw [← hv]; split <;> omega
                    refine tz_if_ne (pc := 73) (tgt := 139) dX12_meetings_73 (by decide) (by omega) (fun h_73 => ?_) (fun h_73 => ?_)
                    · refine tz_iinc (pc := 139) (z := p + 1) (L2 := [_, _, _, _, _, _, _, _]) dX12_meetings_139 rfl (by omega) rfl ?_
                      refine tz_goto (pc := 142) (tgt := 31) dX12_meetings_142 (by decide) ?_
                      exact ih31 _ (p + 1) _ _ _ (by omega) (by omega) (by omega) f3
                    · refine tz_iload (pc := 76) dX12_meetings_76 rfl ?_
                      refine tz_if_ne (pc := 78) (tgt := 87) dX12_meetings_78 (by decide) (by omega) (fun h_78 => ?_) (fun h_78 => ?_)
                      · refine tz_aload_n (pc := 87) dX12_meetings_87 rfl rfl ?_
                        refine tz_iload (pc := 88) dX12_meetings_88 rfl ?_
                        refine tz_aload_n (pc := 90) dX12_meetings_90 rfl rfl ?_
                        refine tz_fR (pc := 91) dX12_meetings_91 fl_X12_9 r_164_0 ?_
                        refine tz_bipush (pc := 94) dX12_meetings_94 (by decide) ?_
                        refine tz_iconst (pc := 96) dX12_meetings_96 ?_
                        refine tz_iload (pc := 97) dX12_meetings_97 rfl ?_
                        refine tz_imul (pc := 99) (v := 2 * j) dX12_meetings_99 rfl ?_
                        refine tz_iadd (pc := 100) (v := 10 + (2 * j)) dX12_meetings_100 rfl ?_
                        refine tz_aL (pc := 101) (z := (10 + (2 * j))) (v := (J 165 (10 + (2 * j)))) dX12_meetings_101 a_165 rfl (by omega) (Eq.trans (congrFun (f3.1 165 rfl) (10 + (2 * j))) rfl) (fun r_101 => ?_)
                        have hr8 := hR.2 j (by omega) (by omega)
                        refine tz_cV (pc := 102) (m_canBe hl n _ _ _ (by omega) (by omega) b r d s m (hM.cl f3.1 f3.2) (by omega) hr8.1) vl_X12_359 dX12_meetings_102 o_164 rfl rfl (Nat.le_of_ble_eq_true rfl) ⟨(Nat.le_of_ble_eq_true rfl), (Nat.le_of_ble_eq_true rfl)⟩ rfl rfl (Nat.le_of_ble_eq_true rfl) (Nat.le_of_ble_eq_true rfl) (fun r9 J_102 hq9 => ?_)
                        obtain ⟨z_102, rfl, hz_102, b4, f4, g4⟩ := hq9
                        refine tz_if_ne (pc := 105) (tgt := 111) dX12_meetings_105 (by decide) (by omega) (fun h_105 => ?_) (fun h_105 => ?_)
                        · refine tz_iload_n (pc := 111) dX12_meetings_111 rfl rfl ?_
                          refine tz_if_eq (pc := 112) (tgt := 130) dX12_meetings_112 (by decide) (by omega) (fun h_112 => ?_) (fun h_112 => ?_)
                          · refine tz_iinc (pc := 130) (z := q3 + 1) (L2 := [_, _, _, _, _, _, _, _]) dX12_meetings_130 rfl (by omega) rfl ?_
                            refine tz_iinc (pc := 133) (z := j + 1) (L2 := [_, _, _, _, _, _, _, _]) dX12_meetings_133 rfl (by omega) rfl ?_
                            refine tz_goto (pc := 136) (tgt := 55) dX12_meetings_136 (by decide) ?_
                            exact ih55 _ (j + 1) _ (by omega) (by omega) (by omega) ⟨f4.tr f3.1, fun k hk => (g4 k hk).trans (f3.2 k hk)⟩
                          · refine tz_sipush (pc := 115) dX12_meetings_115 (by decide) ?_
                            refine tz_iload_n (pc := 118) dX12_meetings_118 rfl rfl ?_
                            refine tz_imul (pc := 119) (v := 1000 * k) dX12_meetings_119 rfl ?_
                            refine tz_bipush (pc := 120) dX12_meetings_120 (by decide) ?_
                            refine tz_iload (pc := 122) dX12_meetings_122 rfl ?_
                            refine tz_imul (pc := 124) (v := 10 * p) dX12_meetings_124 rfl ?_
                            refine tz_iadd (pc := 125) (v := (1000 * k) + (10 * p)) dX12_meetings_125 rfl ?_
                            refine tz_iload (pc := 126) dX12_meetings_126 rfl ?_
                            refine tz_iadd (pc := 128) (v := ((1000 * k) + (10 * p)) + j) dX12_meetings_128 rfl ?_
                            exact tz_iret (pc := 129) (z := (((1000 * k) + (10 * p)) + j)) dX12_meetings_129 rfl (Nat.le_of_ble_eq_true rfl) (Nat.le_of_ble_eq_true rfl) ⟨Nat.le_refl _, Nat.le_add_right _ _⟩ ⟨_, rfl, (by omega), ⟨f4.tr f3.1, fun k hk => (g4 k hk).trans (f3.2 k hk)⟩⟩
                        · refine tz_goto (pc := 108) (tgt := 133) dX12_meetings_108 (by decide) ?_
                          refine tz_iinc (pc := 133) (z := j + 1) (L2 := [_, _, _, _, _, _, _, _]) dX12_meetings_133 rfl (by omega) rfl ?_
                          refine tz_goto (pc := 136) (tgt := 55) dX12_meetings_136 (by decide) ?_
                          exact ih55 _ (j + 1) _ (by omega) (by omega) (by omega) ⟨f4.tr f3.1, fun k hk => (g4 k hk).trans (f3.2 k hk)⟩
                      · refine tz_iload_n (pc := 81) dX12_meetings_81 rfl rfl ?_
                        refine tz_iload (pc := 82) dX12_meetings_82 rfl ?_
                        refine tz_icmp_eq (pc := 84) (tgt := 133) dX12_meetings_84 (by decide) (by omega) (by omega) (fun h_84 => ?_) (fun h_84 => ?_)
                        · refine tz_iinc (pc := 133) (z := j + 1) (L2 := [_, _, _, _, _, _, _, _]) dX12_meetings_133 rfl (by omega) rfl ?_
                          refine tz_goto (pc := 136) (tgt := 55) dX12_meetings_136 (by decide) ?_
                          exact ih55 _ (j + 1) _ (by omega) (by omega) (by omega) f3
                        · refine tz_aload_n (pc := 87) dX12_meetings_87 rfl rfl ?_
                          refine tz_iload (pc := 88) dX12_meetings_88 rfl ?_
                          refine tz_aload_n (pc := 90) dX12_meetings_90 rfl rfl ?_
                          refine tz_fR (pc := 91) dX12_meetings_91 fl_X12_9 r_164_0 ?_
                          refine tz_bipush (pc := 94) dX12_meetings_94 (by decide) ?_
                          refine tz_iconst (pc := 96) dX12_meetings_96 ?_
                          refine tz_iload (pc := 97) dX12_meetings_97 rfl ?_
                          refine tz_imul (pc := 99) (v := 2 * j) dX12_meetings_99 rfl ?_
                          refine tz_iadd (pc := 100) (v := 10 + (2 * j)) dX12_meetings_100 rfl ?_
                          refine tz_aL (pc := 101) (z := (10 + (2 * j))) (v := (J 165 (10 + (2 * j)))) dX12_meetings_101 a_165 rfl (by omega) (Eq.trans (congrFun (f3.1 165 rfl) (10 + (2 * j))) rfl) (fun r_101 => ?_)
                          have hr8 := hR.2 j (by omega) (by omega)
                          refine tz_cV (pc := 102) (m_canBe hl n _ _ _ (by omega) (by omega) b r d s m (hM.cl f3.1 f3.2) (by omega) hr8.1) vl_X12_359 dX12_meetings_102 o_164 rfl rfl (Nat.le_of_ble_eq_true rfl) ⟨(Nat.le_of_ble_eq_true rfl), (Nat.le_of_ble_eq_true rfl)⟩ rfl rfl (Nat.le_of_ble_eq_true rfl) (Nat.le_of_ble_eq_true rfl) (fun r9 J_102 hq9 => ?_)
                          obtain ⟨z_102, rfl, hz_102, b4, f4, g4⟩ := hq9
                          refine tz_if_ne (pc := 105) (tgt := 111) dX12_meetings_105 (by decide) (by omega) (fun h_105 => ?_) (fun h_105 => ?_)
                          · refine tz_iload_n (pc := 111) dX12_meetings_111 rfl rfl ?_
                            refine tz_if_eq (pc := 112) (tgt := 130) dX12_meetings_112 (by decide) (by omega) (fun h_112 => ?_) (fun h_112 => ?_)
                            · refine tz_iinc (pc := 130) (z := q3 + 1) (L2 := [_, _, _, _, _, _, _, _]) dX12_meetings_130 rfl (by omega) rfl ?_
                              refine tz_iinc (pc := 133) (z := j + 1) (L2 := [_, _, _, _, _, _, _, _]) dX12_meetings_133 rfl (by omega) rfl ?_
                              refine tz_goto (pc := 136) (tgt := 55) dX12_meetings_136 (by decide) ?_
                              exact ih55 _ (j + 1) _ (by omega) (by omega) (by omega) ⟨f4.tr f3.1, fun k hk => (g4 k hk).trans (f3.2 k hk)⟩
                            · refine tz_sipush (pc := 115) dX12_meetings_115 (by decide) ?_
                              refine tz_iload_n (pc := 118) dX12_meetings_118 rfl rfl ?_
                              refine tz_imul (pc := 119) (v := 1000 * k) dX12_meetings_119 rfl ?_
                              refine tz_bipush (pc := 120) dX12_meetings_120 (by decide) ?_
                              refine tz_iload (pc := 122) dX12_meetings_122 rfl ?_
                              refine tz_imul (pc := 124) (v := 10 * p) dX12_meetings_124 rfl ?_
                              refine tz_iadd (pc := 125) (v := (1000 * k) + (10 * p)) dX12_meetings_125 rfl ?_
                              refine tz_iload (pc := 126) dX12_meetings_126 rfl ?_
                              refine tz_iadd (pc := 128) (v := ((1000 * k) + (10 * p)) + j) dX12_meetings_128 rfl ?_
                              exact tz_iret (pc := 129) (z := (((1000 * k) + (10 * p)) + j)) dX12_meetings_129 rfl (Nat.le_of_ble_eq_true rfl) (Nat.le_of_ble_eq_true rfl) ⟨Nat.le_refl _, Nat.le_add_right _ _⟩ ⟨_, rfl, (by omega), ⟨f4.tr f3.1, fun k hk => (g4 k hk).trans (f3.2 k hk)⟩⟩
                          · refine tz_goto (pc := 108) (tgt := 133) dX12_meetings_108 (by decide) ?_
                            refine tz_iinc (pc := 133) (z := j + 1) (L2 := [_, _, _, _, _, _, _, _]) dX12_meetings_133 rfl (by omega) rfl ?_
                            refine tz_goto (pc := 136) (tgt := 55) dX12_meetings_136 (by decide) ?_
                            exact ih55 _ (j + 1) _ (by omega) (by omega) (by omega) ⟨f4.tr f3.1, fun k hk => (g4 k hk).trans (f3.2 k hk)⟩
              exact loop55 _ _ 0 _ (Nat.lt_succ_self _) (by omega) (by omega) f2
        exact loop31 _ _ 0 _ _ _ (Nat.lt_succ_self _) (by omega) (by omega) f1
  exact loop4 _ 0 0 none none none none _ (Nat.lt_succ_self _) (by omega) (by omega) ⟨zOf.rf, fun _ _ => rfl⟩

