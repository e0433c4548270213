theorem zsel {f : Int → Int} {a : Int} : ∀ k, f k = if k = a then f a else f k := fun k => by
  split
  · next h => rw [h]
  · rfl
theorem UF.joinP {J J' : zJ} {c m a b v w : Int} (h : UF J c m) (ha : (0 ≤ a ∧ a < c) ∧ a % 400 < m ∧ J 177 a = a) (hb : (0 ≤ b ∧ b < c) ∧ b % 400 < m ∧ J 177 b = b) (hab : ¬ a = b) (hv : v = -1 ∨ (0 ≤ v ∧ v < c ∧ v % 400 < m)) (hw : v = -1 → 0 ≤ w ∧ w < 8) (e7 : ∀ k, J' 177 k = if k = b then a else J 177 k) (e8 : ∀ k, J' 178 k = if k = a then v else J 178 k) (e9 : ∀ k, J' 179 k = if k = a then w else J 179 k) : UF J' c m ∧ rc J' < rc J := by
  have hc := h.1
  refine ⟨(UF.join h ha hb hab hv hw).of (funext fun k => (e7 k).trans rfl) (funext fun k => (e8 k).trans rfl) (funext fun k => (e9 k).trans rfl), ?_⟩
  have h1 := rc_join (J := J) (a := a) (b := b) (v := v) (w := w) ⟨⟨hb.1.1, by omega⟩, hb.2.2⟩ hab
  have e : rc J' = rc (zup (zup (zup J 177 b a) 178 a v) 179 a w) := by
    unfold rc
    rw [show J' 177 = zup (zup (zup J 177 b a) 178 a v) 179 a w 177 from funext fun k => (e7 k).trans rfl]
  omega
theorem mar_cl {J' J : zJ} {b d t : Int} (f : zOf (zbut [164, 177, 178, 179, 180]) J' J) : mar J' b d t = mar J b d t := by
  unfold mar
  rw [f 166 rfl, f 170 rfl]
theorem UF.bd {J : zJ} {c m : Int} (h : UF J c m) : c = 400 ∨ c = 800 := h.1
set_option maxHeartbeats 4000000 in
set_option maxRecDepth 100000 in
theorem m_joinsR {l : Launch} {G : tb_G} (hl : l.stackTraces = false) (n : Nat) : ∀ (r9 : Nat) (J : zJ) (x : Int) (y : Int) (hr_x : -2147483648 ≤ x ∧ x < 2147483648) (hr_y : -2147483648 ≤ y ∧ y < 2147483648) (b r d s m : Int) (c : Int) (hM : MS J b r d s m) (hU : UF J c m) (hx : (0 ≤ x ∧ x < c) ∧ x % 400 < m) (hy : (0 ≤ y ∧ y < c) ∧ y % 400 < m), (rc J) < r9 → tz_Ok l G M_X12_joins (5 + 1 * r9) 0 0 [.ref 164, zi x, zi y] n J (zqv (fun J' => UF J' c m ∧ rc J' ≤ rc J ∧ zOf (zbut [164, 177, 178, 179, 180]) J' J ∧ ∀ k, ¬ k = 30 → J' 164 k = J 164 k)) zN := by
  intro r9
  induction r9 with
  | zero => intro J x y hr_x hr_y b r d s m c hM hU hx hy hm9; exact absurd hm9 (Nat.not_lt_zero _)
  | succ r9 ih =>
    intro J x y hr_x hr_y b r d s m c hM hU hx hy hm9
    refine tz_Ok.of hl (by decide +kernel) rfl (tb_c1 rfl) (Nat.le_of_ble_eq_true rfl) ?_
    show tz_At l G M_X12_joins (tb_rm (5 + 1 * (r9 + 1)) 0 0) none (tb_ZM G 0 0 (zQ n 0 (zqv (fun J' => UF J' c m ∧ rc J' ≤ rc J ∧ zOf (zbut [164, 177, 178, 179, 180]) J' J ∧ ∀ k, ¬ k = 30 → J' 164 k = J 164 k))) (zX n 0 zN)) 0 0 n J 0 [some (.ref 164), some (zi x), some (zi y), none, none, none, none, none] []
    obtain ⟨hM1, hM2, hM3, hM4, hM5, hM6⟩ := id hM
    have hT := hM.told
    have hc9 := hU.1
    refine tz_aload_n (pc := 0) dX12_joins_0 rfl rfl ?_
    refine tz_iload_n (pc := 1) dX12_joins_1 rfl rfl ?_
    refine tz_cV (pc := 2) (m_top hl n _ _ (by omega) c m hU (by omega)) vl_X12_164 dX12_joins_2 o_164 rfl rfl (Nat.le_of_ble_eq_true rfl) ⟨(show 0 + 1 ≤ 5 + 1 * (r9 + 1) by omega), (show 8 + (3 + 11) + 40 * (0) ≤ 40 * (5 + 1 * (r9 + 1)) by omega)⟩ rfl rfl (Nat.le_of_ble_eq_true rfl) (Nat.le_of_ble_eq_true rfl) (fun r9 J_2 hq9 => ?_)
    obtain ⟨z_2, rfl, hz_2, rfl, a_2, b_2, c_2⟩ := hq9
    refine tz_istore_n (pc := 5) (L2 := [_, _, _, _, _, _, _, _]) dX12_joins_5 rfl (by decide) rfl ?_
    refine tz_aload_n (pc := 6) dX12_joins_6 rfl rfl ?_
    refine tz_iload_n (pc := 7) dX12_joins_7 rfl rfl ?_
    refine tz_cV (pc := 8) (m_top hl n _ _ (by omega) c m hU (by omega)) vl_X12_164 dX12_joins_8 o_164 rfl rfl (Nat.le_of_ble_eq_true rfl) ⟨(show 0 + 1 ≤ 5 + 1 * (r9 + 1) by omega), (show 8 + (3 + 11) + 40 * (0) ≤ 40 * (5 + 1 * (r9 + 1)) by omega)⟩ rfl rfl (Nat.le_of_ble_eq_true rfl) (Nat.le_of_ble_eq_true rfl) (fun r9 J_8 hq9 => ?_)
    obtain ⟨z_8, rfl, hz_8, rfl, a_8, b_8, c_8⟩ := hq9
    refine tz_istore (pc := 11) (L2 := [_, _, _, _, _, _, _, _]) dX12_joins_11 (by decide) rfl ?_
    refine tz_iload_n (pc := 13) dX12_joins_13 rfl rfl ?_
    refine tz_iload (pc := 14) dX12_joins_14 rfl ?_
    refine tz_icmp_ne (pc := 16) (tgt := 20) dX12_joins_16 (by decide) (by omega) (by omega) (fun h_16 => ?_) (fun h_16 => ?_)
    · have ua := (hU.at a_2).2
      have ub := (hU.at a_8).2
      have va := c_2 hx.2
      have vb := c_8 hy.2
      refine tz_aload_n (pc := 20) dX12_joins_20 rfl rfl ?_
      refine tz_fR (pc := 21) dX12_joins_21 fl_X12_53 r_164_26 ?_
      refine tz_iload_n (pc := 24) dX12_joins_24 rfl rfl ?_
      refine tz_aL (pc := 25) (z := z_2) (v := (J 178 z_2)) dX12_joins_25 a_178 rfl (by omega) rfl (fun r_25 => ?_)
      refine tz_istore (pc := 26) (L2 := [_, _, _, _, _, _, _, _]) dX12_joins_26 (by decide) rfl ?_
      refine tz_aload_n (pc := 28) dX12_joins_28 rfl rfl ?_
      refine tz_fR (pc := 29) dX12_joins_29 fl_X12_53 r_164_26 ?_
      refine tz_iload (pc := 32) dX12_joins_32 rfl ?_
      refine tz_aL (pc := 34) (z := z_8) (v := (J 178 z_8)) dX12_joins_34 a_178 rfl (by omega) rfl (fun r_34 => ?_)
      refine tz_istore (pc := 35) (L2 := [_, _, _, _, _, _, _, _]) dX12_joins_35 (by decide) rfl ?_
      refine tz_aload_n (pc := 37) dX12_joins_37 rfl rfl ?_
      refine tz_fR (pc := 38) dX12_joins_38 fl_X12_50 r_164_25 ?_
      refine tz_iload (pc := 41) dX12_joins_41 rfl ?_
      refine tz_iload_n (pc := 43) dX12_joins_43 rfl rfl ?_
      refine tz_aS (pc := 44) (z := z_8) dX12_joins_44 a_177 rfl (by omega) (by omega) ?_
      refine tz_iload (pc := 45) dX12_joins_45 rfl ?_
      refine tz_iconst (pc := 47) dX12_joins_47 ?_
      refine tz_icmp_ne (pc := 48) (tgt := 59) dX12_joins_48 (by decide) (by omega) (by decide) (fun h_48 => ?_) (fun h_48 => ?_)
      · refine tz_aload_n (pc := 59) dX12_joins_59 rfl rfl ?_
        refine tz_fR (pc := 60) dX12_joins_60 fl_X12_56 r_164_27 ?_
        refine tz_iload (pc := 63) dX12_joins_63 rfl ?_
        refine tz_aL (pc := 65) (z := z_8) (v := (J 179 z_8)) dX12_joins_65 a_179 rfl (by omega) rfl (fun r_65 => ?_)
        refine tz_aload_n (pc := 66) dX12_joins_66 rfl rfl ?_
        refine tz_fR (pc := 67) dX12_joins_67 fl_X12_56 r_164_27 ?_
        refine tz_iload_n (pc := 70) dX12_joins_70 rfl rfl ?_
        refine tz_aL (pc := 71) (z := z_2) (v := (J 179 z_2)) dX12_joins_71 a_179 rfl (by omega) rfl (fun r_71 => ?_)
        refine tz_icmp_ge (pc := 72) (tgt := 88) dX12_joins_72 (by decide) (by omega) (by omega) (fun h_72 => ?_) (fun h_72 => ?_)
        · have hu := UF.joinP (J := J) (J' := (zup J 177 z_8 z_2)) (c := c) (m := m) (a := z_2) (b := z_8) (v := J 178 z_2) (w := J 179 z_2) hU ⟨a_2, c_2 hx.2, b_2⟩ ⟨a_8, c_8 hy.2, b_8⟩ (by omega) (by omega) (by omega) (fun _ => rfl) (zsel (f := J 178)) (zsel (f := J 179))
          refine tz_iload (pc := 88) dX12_joins_88 rfl ?_
          refine tz_iconst (pc := 90) dX12_joins_90 ?_
          refine tz_icmp_eq (pc := 91) (tgt := 100) dX12_joins_91 (by decide) (by omega) (by decide) (fun h_91 => ?_) (fun h_91 => ?_)
          · exact tz_vret (pc := 100) dX12_joins_100 rfl (Nat.le_of_ble_eq_true rfl) (Nat.le_of_ble_eq_true rfl) ⟨Nat.le_refl _, Nat.le_add_right _ _⟩ ⟨rfl, ⟨hu.1, Nat.le_of_lt hu.2, (zOf.up rfl zOf.rf), (fun _ _ => rfl)⟩⟩
          · refine tz_iload (pc := 94) dX12_joins_94 rfl ?_
            refine tz_iconst (pc := 96) dX12_joins_96 ?_
            refine tz_icmp_ne (pc := 97) (tgt := 101) dX12_joins_97 (by decide) (by omega) (by decide) (fun h_97 => ?_) (fun h_97 => ?_)
            · refine tz_aload_n (pc := 101) dX12_joins_101 rfl rfl ?_
              refine tz_iload (pc := 102) dX12_joins_102 rfl ?_
              refine tz_sipush (pc := 104) dX12_joins_104 (by decide) ?_
              refine tz_irem (pc := 107) (a := (J 178 z_2)) (b := 400) (v := ((J 178 z_2) % 400)) dX12_joins_107 (by omega) (by omega) rfl ?_
              refine tz_cV (pc := 108) (m_head hl n _ _ (by omega) b r d s m (hM.cl (zOf.up rfl zOf.rf) (fun _ _ => rfl)) (by omega)) vl_X12_74 dX12_joins_108 o_164 rfl rfl (Nat.le_of_ble_eq_true rfl) ⟨(show 0 + 1 ≤ 5 + 1 * (r9 + 1) by omega), (show 8 + (2 + 11) + 40 * (0) ≤ 40 * (5 + 1 * (r9 + 1)) by omega)⟩ rfl rfl (Nat.le_of_ble_eq_true rfl) (Nat.le_of_ble_eq_true rfl) (fun r9 J_108 hq9 => ?_)
              obtain ⟨z_108, rfl, hz_108, rfl, hv_108⟩ := hq9
              have he_108 : ((zup J 177 z_8 z_2) : zJ) 166 = J 166 := rfl
              rw [he_108] at hv_108
              refine tz_aload_n (pc := 111) dX12_joins_111 rfl rfl ?_
              refine tz_iload (pc := 112) dX12_joins_112 rfl ?_
              refine tz_sipush (pc := 114) dX12_joins_114 (by decide) ?_
              refine tz_irem (pc := 117) (a := (J 178 z_8)) (b := 400) (v := ((J 178 z_8) % 400)) dX12_joins_117 (by omega) (by omega) rfl ?_
              refine tz_cV (pc := 118) (m_head hl n _ _ (by omega) b r d s m (hM.cl (zOf.up rfl zOf.rf) (fun _ _ => rfl)) (by omega)) vl_X12_74 dX12_joins_118 o_164 rfl rfl (Nat.le_of_ble_eq_true rfl) ⟨(show 0 + 1 ≤ 5 + 1 * (r9 + 1) by omega), (show 8 + (2 + 11) + 40 * (0) ≤ 40 * (5 + 1 * (r9 + 1)) by omega)⟩ rfl rfl (Nat.le_of_ble_eq_true rfl) (Nat.le_of_ble_eq_true rfl) (fun r9 J_118 hq9 => ?_)
              obtain ⟨z_118, rfl, hz_118, rfl, hv_118⟩ := hq9
              have he_118 : ((zup J 177 z_8 z_2) : zJ) 166 = J 166 := rfl
              rw [he_118] at hv_118
              have ha121 := hM.ar (t := (J 178 z_2) % 400) (by omega)
              refine tz_icmp_eq (pc := 121) (tgt := 130) dX12_joins_121 (by decide) (by omega) (by omega) (fun h_121 => ?_) (fun h_121 => ?_)
              · refine tz_iconst (pc := 130) dX12_joins_130 ?_
                refine tz_istore (pc := 131) (L2 := [_, _, _, _, _, _, _, _]) dX12_joins_131 (by decide) rfl ?_
                have loop133 : ∀ (f9 : Nat) (k : Int) (J1 : zJ), ((3 - k).toNat) < f9 → (0 ≤ k ∧ k ≤ 3) → (UF J1 c m) → (rc J1 < rc J) → (zOf (zbut [164, 177, 178, 179, 180]) J1 J ∧ ∀ k, ¬ k = 30 → J1 164 k = J 164 k) → tz_At l G M_X12_joins (tb_rm (5 + 1 * (r9 + 1)) 0 0) none (tb_ZM G 0 0 (zQ n 0 (zqv (fun J' => UF J' c m ∧ rc J' ≤ rc J ∧ zOf (zbut [164, 177, 178, 179, 180]) J' J ∧ ∀ k, ¬ k = 30 → J' 164 k = J 164 k))) (zX n 0 zN)) 0 0 n J1 133 [some (.ref 164), some (zi x), some (zi y), some (zi z_2), some (zi z_8), some (zi (J 178 z_2)), some (zi (J 178 z_8)), some (zi k)] [] := by
                  intro f9
                  induction f9 with
                  | zero => intro k J1 hm9; exact absurd hm9 (Nat.not_lt_zero _)
                  | succ f9 ih133 =>
                    intro k J1 hm133 hk hU1 hr1 f_J1
                    have e9 := MS.hd8 (J := J) (b := b) (d := d) (t := (J 178 z_2) % 400) (u := (J 178 z_8) % 400) (by omega)
                    have hA := hM.ar (t := (J 178 z_2) % 400) (by omega)
                    refine tz_iload (pc := 133) dX12_joins_133 rfl ?_
                    refine tz_aload_n (pc := 135) dX12_joins_135 rfl rfl ?_
                    refine tz_iload (pc := 136) dX12_joins_136 rfl ?_
                    refine tz_sipush (pc := 138) dX12_joins_138 (by decide) ?_
                    refine tz_irem (pc := 141) (a := (J 178 z_2)) (b := 400) (v := ((J 178 z_2) % 400)) dX12_joins_141 (by omega) (by omega) rfl ?_
                    refine tz_cV (pc := 142) (m_arity hl n _ _ (by omega) b r d s m (hM.cl f_J1.1 f_J1.2) (by omega)) vl_X12_111 dX12_joins_142 o_164 rfl rfl (Nat.le_of_ble_eq_true rfl) ⟨(show 2 + 1 ≤ 5 + 1 * (r9 + 1) by omega), (show 8 + (2 + 11) + 40 * (2) ≤ 40 * (5 + 1 * (r9 + 1)) by omega)⟩ rfl rfl (Nat.le_of_ble_eq_true rfl) (Nat.le_of_ble_eq_true rfl) (fun r9 J_142 hq9 => ?_)
                    obtain ⟨z_142, rfl, hz_142, rfl, hv_142⟩ := hq9
                    rw [mar_cl (J := J) f_J1.1] at hv_142
                    refine tz_icmp_ge (pc := 145) (tgt := 174) dX12_joins_145 (by decide) (by omega) (by omega) (fun h_145 => ?_) (fun h_145 => ?_)
                    · exact tz_vret (pc := 174) dX12_joins_174 rfl (Nat.le_of_ble_eq_true rfl) (Nat.le_of_ble_eq_true rfl) ⟨Nat.le_refl _, Nat.le_add_right _ _⟩ ⟨rfl, ⟨hU1, by omega, f_J1⟩⟩
                    · refine tz_aload_n (pc := 148) dX12_joins_148 rfl rfl ?_
                      refine tz_aload_n (pc := 149) dX12_joins_149 rfl rfl ?_
                      refine tz_iload (pc := 150) dX12_joins_150 rfl ?_
                      refine tz_iload (pc := 152) dX12_joins_152 rfl ?_
                      refine tz_cV (pc := 154) (m_argOf hl n _ _ _ (by omega) (by omega) b r d s m c (hM.cl f_J1.1 f_J1.2) hU.1 (by omega) (by rw [mar_cl (J := J) f_J1.1]; omega)) vl_X12_167 dX12_joins_154 o_164 rfl rfl (Nat.le_of_ble_eq_true rfl) ⟨(show 1 + 1 ≤ 5 + 1 * (r9 + 1) by omega), (show 8 + (3 + 11) + 40 * (1) ≤ 40 * (5 + 1 * (r9 + 1)) by omega)⟩ rfl rfl (Nat.le_of_ble_eq_true rfl) (Nat.le_of_ble_eq_true rfl) (fun r9 J_154 hq9 => ?_)
                      obtain ⟨z_154, rfl, hz_154, rfl, hg_154, hh_154⟩ := hq9
                      refine tz_aload_n (pc := 157) dX12_joins_157 rfl rfl ?_
                      refine tz_iload (pc := 158) dX12_joins_158 rfl ?_
                      refine tz_iload (pc := 160) dX12_joins_160 rfl ?_
                      refine tz_cV (pc := 162) (m_argOf hl n _ _ _ (by omega) (by omega) b r d s m c (hM.cl f_J1.1 f_J1.2) hU.1 (by omega) (by rw [mar_cl (J := J) f_J1.1]; omega)) vl_X12_167 dX12_joins_162 o_164 rfl rfl (Nat.le_of_ble_eq_true rfl) ⟨(show 1 + 1 ≤ 5 + 1 * (r9 + 1) by omega), (show 8 + (3 + 11) + 40 * (1) ≤ 40 * (5 + 1 * (r9 + 1)) by omega)⟩ rfl rfl (Nat.le_of_ble_eq_true rfl) (Nat.le_of_ble_eq_true rfl) (fun r9 J_162 hq9 => ?_)
                      obtain ⟨z_162, rfl, hz_162, rfl, hg_162, hh_162⟩ := hq9
                      refine tz_cV (pc := 165) (ih _ _ _ (by omega) (by omega) b r d s m c (hM.cl f_J1.1 f_J1.2) hU1 ⟨hg_154, hh_154⟩ ⟨hg_162, hh_162⟩ (by omega)) vl_X12_170 dX12_joins_165 o_164 rfl rfl (Nat.le_of_ble_eq_true rfl) ⟨(show (5 + 1 * r9) + 1 ≤ 5 + 1 * (r9 + 1) by omega), (show 8 + (8 + 11) + 40 * ((5 + 1 * r9)) ≤ 40 * (5 + 1 * (r9 + 1)) by omega)⟩ rfl rfl (Nat.le_of_ble_eq_true rfl) (Nat.le_of_ble_eq_true rfl) (fun r9 J_165 hq9 => ?_)
                      obtain ⟨rfl, u_2, r_2, g_2, k_2⟩ := hq9
                      refine tz_iinc (pc := 168) (z := k + 1) (L2 := [_, _, _, _, _, _, _, _]) dX12_joins_168 rfl (by omega) rfl ?_
                      refine tz_goto (pc := 171) (tgt := 133) dX12_joins_171 (by decide) ?_
                      exact ih133 (k + 1) _ (by omega) (by omega) u_2 (by omega) ⟨g_2.tr f_J1.1, fun k hk => (k_2 k hk).trans (f_J1.2 k hk)⟩
                exact loop133 _ 0 _ (Nat.lt_succ_self _) (by omega) hu.1 hu.2 ⟨(zOf.up rfl zOf.rf), (fun _ _ => rfl)⟩
              · refine tz_aload_n (pc := 124) dX12_joins_124 rfl rfl ?_
                refine tz_iconst (pc := 125) dX12_joins_125 ?_
                refine tz_pZ (pc := 126) (kz := 30) dX12_joins_126 fl_X12_161 i_164_30 rfl rfl (Or.inr rfl) ?_
                exact tz_vret (pc := 129) dX12_joins_129 rfl (Nat.le_of_ble_eq_true rfl) (Nat.le_of_ble_eq_true rfl) ⟨Nat.le_refl _, Nat.le_add_right _ _⟩ ⟨rfl, ⟨hu.1.of rfl rfl rfl, Nat.le_of_lt hu.2, (zOf.up rfl (zOf.up rfl zOf.rf)), (fun k hk => (zup_ne hk).trans ((fun _ _ => rfl) k hk))⟩⟩
            · exact tz_vret (pc := 100) dX12_joins_100 rfl (Nat.le_of_ble_eq_true rfl) (Nat.le_of_ble_eq_true rfl) ⟨Nat.le_refl _, Nat.le_add_right _ _⟩ ⟨rfl, ⟨hu.1, Nat.le_of_lt hu.2, (zOf.up rfl zOf.rf), (fun _ _ => rfl)⟩⟩
        · refine tz_aload_n (pc := 75) dX12_joins_75 rfl rfl ?_
          refine tz_fR (pc := 76) dX12_joins_76 fl_X12_56 r_164_27 ?_
          refine tz_iload_n (pc := 79) dX12_joins_79 rfl rfl ?_
          refine tz_aload_n (pc := 80) dX12_joins_80 rfl rfl ?_
          refine tz_fR (pc := 81) dX12_joins_81 fl_X12_56 r_164_27 ?_
          refine tz_iload (pc := 84) dX12_joins_84 rfl ?_
          refine tz_aL (pc := 86) (z := z_8) (v := (J 179 z_8)) dX12_joins_86 a_179 rfl (by omega) rfl (fun r_86 => ?_)
          refine tz_aS (pc := 87) (z := z_2) dX12_joins_87 a_179 rfl (by omega) (by omega) ?_
          have hu := UF.joinP (J := J) (J' := (zup (zup J 177 z_8 z_2) 179 z_2 (J 179 z_8))) (c := c) (m := m) (a := z_2) (b := z_8) (v := J 178 z_2) (w := J 179 z_8) hU ⟨a_2, c_2 hx.2, b_2⟩ ⟨a_8, c_8 hy.2, b_8⟩ (by omega) (by omega) (by omega) (fun _ => rfl) (zsel (f := J 178)) (fun _ => rfl)
          refine tz_iload (pc := 88) dX12_joins_88 rfl ?_
          refine tz_iconst (pc := 90) dX12_joins_90 ?_
          refine tz_icmp_eq (pc := 91) (tgt := 100) dX12_joins_91 (by decide) (by omega) (by decide) (fun h_91 => ?_) (fun h_91 => ?_)
          · exact tz_vret (pc := 100) dX12_joins_100 rfl (Nat.le_of_ble_eq_true rfl) (Nat.le_of_ble_eq_true rfl) ⟨Nat.le_refl _, Nat.le_add_right _ _⟩ ⟨rfl, ⟨hu.1, Nat.le_of_lt hu.2, (zOf.up rfl (zOf.up rfl zOf.rf)), (fun _ _ => rfl)⟩⟩
          · refine tz_iload (pc := 94) dX12_joins_94 rfl ?_
            refine tz_iconst (pc := 96) dX12_joins_96 ?_
            refine tz_icmp_ne (pc := 97) (tgt := 101) dX12_joins_97 (by decide) (by omega) (by decide) (fun h_97 => ?_) (fun h_97 => ?_)
            · refine tz_aload_n (pc := 101) dX12_joins_101 rfl rfl ?_
              refine tz_iload (pc := 102) dX12_joins_102 rfl ?_
              refine tz_sipush (pc := 104) dX12_joins_104 (by decide) ?_
              refine tz_irem (pc := 107) (a := (J 178 z_2)) (b := 400) (v := ((J 178 z_2) % 400)) dX12_joins_107 (by omega) (by omega) rfl ?_
              refine tz_cV (pc := 108) (m_head hl n _ _ (by omega) b r d s m (hM.cl (zOf.up rfl (zOf.up rfl zOf.rf)) (fun _ _ => rfl)) (by omega)) vl_X12_74 dX12_joins_108 o_164 rfl rfl (Nat.le_of_ble_eq_true rfl) ⟨(show 0 + 1 ≤ 5 + 1 * (r9 + 1) by omega), (show 8 + (2 + 11) + 40 * (0) ≤ 40 * (5 + 1 * (r9 + 1)) by omega)⟩ rfl rfl (Nat.le_of_ble_eq_true rfl) (Nat.le_of_ble_eq_true rfl) (fun r9 J_108 hq9 => ?_)
              obtain ⟨z_108, rfl, hz_108, rfl, hv_108⟩ := hq9
              have he_108 : ((zup (zup J 177 z_8 z_2) 179 z_2 (J 179 z_8)) : zJ) 166 = J 166 := rfl
              rw [he_108] at hv_108
              refine tz_aload_n (pc := 111) dX12_joins_111 rfl rfl ?_
              refine tz_iload (pc := 112) dX12_joins_112 rfl ?_
              refine tz_sipush (pc := 114) dX12_joins_114 (by decide) ?_
              refine tz_irem (pc := 117) (a := (J 178 z_8)) (b := 400) (v := ((J 178 z_8) % 400)) dX12_joins_117 (by omega) (by omega) rfl ?_
              refine tz_cV (pc := 118) (m_head hl n _ _ (by omega) b r d s m (hM.cl (zOf.up rfl (zOf.up rfl zOf.rf)) (fun _ _ => rfl)) (by omega)) vl_X12_74 dX12_joins_118 o_164 rfl rfl (Nat.le_of_ble_eq_true rfl) ⟨(show 0 + 1 ≤ 5 + 1 * (r9 + 1) by omega), (show 8 + (2 + 11) + 40 * (0) ≤ 40 * (5 + 1 * (r9 + 1)) by omega)⟩ rfl rfl (Nat.le_of_ble_eq_true rfl) (Nat.le_of_ble_eq_true rfl) (fun r9 J_118 hq9 => ?_)
              obtain ⟨z_118, rfl, hz_118, rfl, hv_118⟩ := hq9
              have he_118 : ((zup (zup J 177 z_8 z_2) 179 z_2 (J 179 z_8)) : zJ) 166 = J 166 := rfl
              rw [he_118] at hv_118
              have ha121 := hM.ar (t := (J 178 z_2) % 400) (by omega)
              refine tz_icmp_eq (pc := 121) (tgt := 130) dX12_joins_121 (by decide) (by omega) (by omega) (fun h_121 => ?_) (fun h_121 => ?_)
              · refine tz_iconst (pc := 130) dX12_joins_130 ?_
                refine tz_istore (pc := 131) (L2 := [_, _, _, _, _, _, _, _]) dX12_joins_131 (by decide) rfl ?_
                have loop133 : ∀ (f9 : Nat) (k : Int) (J1 : zJ), ((3 - k).toNat) < f9 → (0 ≤ k ∧ k ≤ 3) → (UF J1 c m) → (rc J1 < rc J) → (zOf (zbut [164, 177, 178, 179, 180]) J1 J ∧ ∀ k, ¬ k = 30 → J1 164 k = J 164 k) → tz_At l G M_X12_joins (tb_rm (5 + 1 * (r9 + 1)) 0 0) none (tb_ZM G 0 0 (zQ n 0 (zqv (fun J' => UF J' c m ∧ rc J' ≤ rc J ∧ zOf (zbut [164, 177, 178, 179, 180]) J' J ∧ ∀ k, ¬ k = 30 → J' 164 k = J 164 k))) (zX n 0 zN)) 0 0 n J1 133 [some (.ref 164), some (zi x), some (zi y), some (zi z_2), some (zi z_8), some (zi (J 178 z_2)), some (zi (J 178 z_8)), some (zi k)] [] := by
                  intro f9
                  induction f9 with
                  | zero => intro k J1 hm9; exact absurd hm9 (Nat.not_lt_zero _)
                  | succ f9 ih133 =>
                    intro k J1 hm133 hk hU1 hr1 f_J1
                    have e9 := MS.hd8 (J := J) (b := b) (d := d) (t := (J 178 z_2) % 400) (u := (J 178 z_8) % 400) (by omega)
                    have hA := hM.ar (t := (J 178 z_2) % 400) (by omega)
                    refine tz_iload (pc := 133) dX12_joins_133 rfl ?_
                    refine tz_aload_n (pc := 135) dX12_joins_135 rfl rfl ?_
                    refine tz_iload (pc := 136) dX12_joins_136 rfl ?_
                    refine tz_sipush (pc := 138) dX12_joins_138 (by decide) ?_
                    refine tz_irem (pc := 141) (a := (J 178 z_2)) (b := 400) (v := ((J 178 z_2) % 400)) dX12_joins_141 (by omega) (by omega) rfl ?_
                    refine tz_cV (pc := 142) (m_arity hl n _ _ (by omega) b r d s m (hM.cl f_J1.1 f_J1.2) (by omega)) vl_X12_111 dX12_joins_142 o_164 rfl rfl (Nat.le_of_ble_eq_true rfl) ⟨(show 2 + 1 ≤ 5 + 1 * (r9 + 1) by omega), (show 8 + (2 + 11) + 40 * (2) ≤ 40 * (5 + 1 * (r9 + 1)) by omega)⟩ rfl rfl (Nat.le_of_ble_eq_true rfl) (Nat.le_of_ble_eq_true rfl) (fun r9 J_142 hq9 => ?_)
                    obtain ⟨z_142, rfl, hz_142, rfl, hv_142⟩ := hq9
                    rw [mar_cl (J := J) f_J1.1] at hv_142
                    refine tz_icmp_ge (pc := 145) (tgt := 174) dX12_joins_145 (by decide) (by omega) (by omega) (fun h_145 => ?_) (fun h_145 => ?_)
                    · exact tz_vret (pc := 174) dX12_joins_174 rfl (Nat.le_of_ble_eq_true rfl) (Nat.le_of_ble_eq_true rfl) ⟨Nat.le_refl _, Nat.le_add_right _ _⟩ ⟨rfl, ⟨hU1, by omega, f_J1⟩⟩
                    · refine tz_aload_n (pc := 148) dX12_joins_148 rfl rfl ?_
                      refine tz_aload_n (pc := 149) dX12_joins_149 rfl rfl ?_
                      refine tz_iload (pc := 150) dX12_joins_150 rfl ?_
                      refine tz_iload (pc := 152) dX12_joins_152 rfl ?_
                      refine tz_cV (pc := 154) (m_argOf hl n _ _ _ (by omega) (by omega) b r d s m c (hM.cl f_J1.1 f_J1.2) hU.1 (by omega) (by rw [mar_cl (J := J) f_J1.1]; omega)) vl_X12_167 dX12_joins_154 o_164 rfl rfl (Nat.le_of_ble_eq_true rfl) ⟨(show 1 + 1 ≤ 5 + 1 * (r9 + 1) by omega), (show 8 + (3 + 11) + 40 * (1) ≤ 40 * (5 + 1 * (r9 + 1)) by omega)⟩ rfl rfl (Nat.le_of_ble_eq_true rfl) (Nat.le_of_ble_eq_true rfl) (fun r9 J_154 hq9 => ?_)
                      obtain ⟨z_154, rfl, hz_154, rfl, hg_154, hh_154⟩ := hq9
                      refine tz_aload_n (pc := 157) dX12_joins_157 rfl rfl ?_
                      refine tz_iload (pc := 158) dX12_joins_158 rfl ?_
                      refine tz_iload (pc := 160) dX12_joins_160 rfl ?_
                      refine tz_cV (pc := 162) (m_argOf hl n _ _ _ (by omega) (by omega) b r d s m c (hM.cl f_J1.1 f_J1.2) hU.1 (by omega) (by rw [mar_cl (J := J) f_J1.1]; omega)) vl_X12_167 dX12_joins_162 o_164 rfl rfl (Nat.le_of_ble_eq_true rfl) ⟨(show 1 + 1 ≤ 5 + 1 * (r9 + 1) by omega), (show 8 + (3 + 11) + 40 * (1) ≤ 40 * (5 + 1 * (r9 + 1)) by omega)⟩ rfl rfl (Nat.le_of_ble_eq_true rfl) (Nat.le_of_ble_eq_true rfl) (fun r9 J_162 hq9 => ?_)
                      obtain ⟨z_162, rfl, hz_162, rfl, hg_162, hh_162⟩ := hq9
                      refine tz_cV (pc := 165) (ih _ _ _ (by omega) (by omega) b r d s m c (hM.cl f_J1.1 f_J1.2) hU1 ⟨hg_154, hh_154⟩ ⟨hg_162, hh_162⟩ (by omega)) vl_X12_170 dX12_joins_165 o_164 rfl rfl (Nat.le_of_ble_eq_true rfl) ⟨(show (5 + 1 * r9) + 1 ≤ 5 + 1 * (r9 + 1) by omega), (show 8 + (8 + 11) + 40 * ((5 + 1 * r9)) ≤ 40 * (5 + 1 * (r9 + 1)) by omega)⟩ rfl rfl (Nat.le_of_ble_eq_true rfl) (Nat.le_of_ble_eq_true rfl) (fun r9 J_165 hq9 => ?_)
                      obtain ⟨rfl, u_2, r_2, g_2, k_2⟩ := hq9
                      refine tz_iinc (pc := 168) (z := k + 1) (L2 := [_, _, _, _, _, _, _, _]) dX12_joins_168 rfl (by omega) rfl ?_
                      refine tz_goto (pc := 171) (tgt := 133) dX12_joins_171 (by decide) ?_
                      exact ih133 (k + 1) _ (by omega) (by omega) u_2 (by omega) ⟨g_2.tr f_J1.1, fun k hk => (k_2 k hk).trans (f_J1.2 k hk)⟩
                exact loop133 _ 0 _ (Nat.lt_succ_self _) (by omega) hu.1 hu.2 ⟨(zOf.up rfl (zOf.up rfl zOf.rf)), (fun _ _ => rfl)⟩
              · refine tz_aload_n (pc := 124) dX12_joins_124 rfl rfl ?_
                refine tz_iconst (pc := 125) dX12_joins_125 ?_
                refine tz_pZ (pc := 126) (kz := 30) dX12_joins_126 fl_X12_161 i_164_30 rfl rfl (Or.inr rfl) ?_
                exact tz_vret (pc := 129) dX12_joins_129 rfl (Nat.le_of_ble_eq_true rfl) (Nat.le_of_ble_eq_true rfl) ⟨Nat.le_refl _, Nat.le_add_right _ _⟩ ⟨rfl, ⟨hu.1.of rfl rfl rfl, Nat.le_of_lt hu.2, (zOf.up rfl (zOf.up rfl (zOf.up rfl zOf.rf))), (fun k hk => (zup_ne hk).trans ((fun _ _ => rfl) k hk))⟩⟩
            · exact tz_vret (pc := 100) dX12_joins_100 rfl (Nat.le_of_ble_eq_true rfl) (Nat.le_of_ble_eq_true rfl) ⟨Nat.le_refl _, Nat.le_add_right _ _⟩ ⟨rfl, ⟨hu.1, Nat.le_of_lt hu.2, (zOf.up rfl (zOf.up rfl zOf.rf)), (fun _ _ => rfl)⟩⟩
      · refine tz_aload_n (pc := 51) dX12_joins_51 rfl rfl ?_
        refine tz_fR (pc := 52) dX12_joins_52 fl_X12_53 r_164_26 ?_
        refine tz_iload_n (pc := 55) dX12_joins_55 rfl rfl ?_
        refine tz_iload (pc := 56) dX12_joins_56 rfl ?_
        refine tz_aS (pc := 58) (z := z_2) dX12_joins_58 a_178 rfl (by omega) (by omega) ?_
        refine tz_aload_n (pc := 59) dX12_joins_59 rfl rfl ?_
        refine tz_fR (pc := 60) dX12_joins_60 fl_X12_56 r_164_27 ?_
        refine tz_iload (pc := 63) dX12_joins_63 rfl ?_
        refine tz_aL (pc := 65) (z := z_8) (v := (J 179 z_8)) dX12_joins_65 a_179 rfl (by omega) rfl (fun r_65 => ?_)
        refine tz_aload_n (pc := 66) dX12_joins_66 rfl rfl ?_
        refine tz_fR (pc := 67) dX12_joins_67 fl_X12_56 r_164_27 ?_
        refine tz_iload_n (pc := 70) dX12_joins_70 rfl rfl ?_
        refine tz_aL (pc := 71) (z := z_2) (v := (J 179 z_2)) dX12_joins_71 a_179 rfl (by omega) rfl (fun r_71 => ?_)
        refine tz_icmp_ge (pc := 72) (tgt := 88) dX12_joins_72 (by decide) (by omega) (by omega) (fun h_72 => ?_) (fun h_72 => ?_)
        · have hu := UF.joinP (J := J) (J' := (zup (zup J 177 z_8 z_2) 178 z_2 (J 178 z_8))) (c := c) (m := m) (a := z_2) (b := z_8) (v := J 178 z_8) (w := J 179 z_2) hU ⟨a_2, c_2 hx.2, b_2⟩ ⟨a_8, c_8 hy.2, b_8⟩ (by omega) (by omega) (by omega) (fun _ => rfl) (fun _ => rfl) (zsel (f := J 179))
          refine tz_iload (pc := 88) dX12_joins_88 rfl ?_
          refine tz_iconst (pc := 90) dX12_joins_90 ?_
          refine tz_icmp_eq (pc := 91) (tgt := 100) dX12_joins_91 (by decide) (by omega) (by decide) (fun h_91 => ?_) (fun h_91 => ?_)
          · exact tz_vret (pc := 100) dX12_joins_100 rfl (Nat.le_of_ble_eq_true rfl) (Nat.le_of_ble_eq_true rfl) ⟨Nat.le_refl _, Nat.le_add_right _ _⟩ ⟨rfl, ⟨hu.1, Nat.le_of_lt hu.2, (zOf.up rfl (zOf.up rfl zOf.rf)), (fun _ _ => rfl)⟩⟩
          · refine tz_iload (pc := 94) dX12_joins_94 rfl ?_
            refine tz_iconst (pc := 96) dX12_joins_96 ?_
            refine tz_icmp_ne (pc := 97) (tgt := 101) dX12_joins_97 (by decide) (by omega) (by decide) (fun h_97 => ?_) (fun h_97 => ?_)
            · refine tz_aload_n (pc := 101) dX12_joins_101 rfl rfl ?_
              refine tz_iload (pc := 102) dX12_joins_102 rfl ?_
              refine tz_sipush (pc := 104) dX12_joins_104 (by decide) ?_
              refine tz_irem (pc := 107) (a := (J 178 z_2)) (b := 400) (v := ((J 178 z_2) % 400)) dX12_joins_107 (by omega) (by omega) rfl ?_
              refine tz_cV (pc := 108) (m_head hl n _ _ (by omega) b r d s m (hM.cl (zOf.up rfl (zOf.up rfl zOf.rf)) (fun _ _ => rfl)) (by omega)) vl_X12_74 dX12_joins_108 o_164 rfl rfl (Nat.le_of_ble_eq_true rfl) ⟨(show 0 + 1 ≤ 5 + 1 * (r9 + 1) by omega), (show 8 + (2 + 11) + 40 * (0) ≤ 40 * (5 + 1 * (r9 + 1)) by omega)⟩ rfl rfl (Nat.le_of_ble_eq_true rfl) (Nat.le_of_ble_eq_true rfl) (fun r9 J_108 hq9 => ?_)
              obtain ⟨z_108, rfl, hz_108, rfl, hv_108⟩ := hq9
              have he_108 : ((zup (zup J 177 z_8 z_2) 178 z_2 (J 178 z_8)) : zJ) 166 = J 166 := rfl
              rw [he_108] at hv_108
              refine tz_aload_n (pc := 111) dX12_joins_111 rfl rfl ?_
              refine tz_iload (pc := 112) dX12_joins_112 rfl ?_
              refine tz_sipush (pc := 114) dX12_joins_114 (by decide) ?_
              refine tz_irem (pc := 117) (a := (J 178 z_8)) (b := 400) (v := ((J 178 z_8) % 400)) dX12_joins_117 (by omega) (by omega) rfl ?_
              refine tz_cV (pc := 118) (m_head hl n _ _ (by omega) b r d s m (hM.cl (zOf.up rfl (zOf.up rfl zOf.rf)) (fun _ _ => rfl)) (by omega)) vl_X12_74 dX12_joins_118 o_164 rfl rfl (Nat.le_of_ble_eq_true rfl) ⟨(show 0 + 1 ≤ 5 + 1 * (r9 + 1) by omega), (show 8 + (2 + 11) + 40 * (0) ≤ 40 * (5 + 1 * (r9 + 1)) by omega)⟩ rfl rfl (Nat.le_of_ble_eq_true rfl) (Nat.le_of_ble_eq_true rfl) (fun r9 J_118 hq9 => ?_)
              obtain ⟨z_118, rfl, hz_118, rfl, hv_118⟩ := hq9
              have he_118 : ((zup (zup J 177 z_8 z_2) 178 z_2 (J 178 z_8)) : zJ) 166 = J 166 := rfl
              rw [he_118] at hv_118
              have ha121 := hM.ar (t := (J 178 z_2) % 400) (by omega)
              refine tz_icmp_eq (pc := 121) (tgt := 130) dX12_joins_121 (by decide) (by omega) (by omega) (fun h_121 => ?_) (fun h_121 => ?_)
              · refine tz_iconst (pc := 130) dX12_joins_130 ?_
                refine tz_istore (pc := 131) (L2 := [_, _, _, _, _, _, _, _]) dX12_joins_131 (by decide) rfl ?_
                have loop133 : ∀ (f9 : Nat) (k : Int) (J1 : zJ), ((3 - k).toNat) < f9 → (0 ≤ k ∧ k ≤ 3) → (UF J1 c m) → (rc J1 < rc J) → (zOf (zbut [164, 177, 178, 179, 180]) J1 J ∧ ∀ k, ¬ k = 30 → J1 164 k = J 164 k) → tz_At l G M_X12_joins (tb_rm (5 + 1 * (r9 + 1)) 0 0) none (tb_ZM G 0 0 (zQ n 0 (zqv (fun J' => UF J' c m ∧ rc J' ≤ rc J ∧ zOf (zbut [164, 177, 178, 179, 180]) J' J ∧ ∀ k, ¬ k = 30 → J' 164 k = J 164 k))) (zX n 0 zN)) 0 0 n J1 133 [some (.ref 164), some (zi x), some (zi y), some (zi z_2), some (zi z_8), some (zi (J 178 z_2)), some (zi (J 178 z_8)), some (zi k)] [] := by
                  intro f9
                  induction f9 with
                  | zero => intro k J1 hm9; exact absurd hm9 (Nat.not_lt_zero _)
                  | succ f9 ih133 =>
                    intro k J1 hm133 hk hU1 hr1 f_J1
                    have e9 := MS.hd8 (J := J) (b := b) (d := d) (t := (J 178 z_2) % 400) (u := (J 178 z_8) % 400) (by omega)
                    have hA := hM.ar (t := (J 178 z_2) % 400) (by omega)
                    refine tz_iload (pc := 133) dX12_joins_133 rfl ?_
                    refine tz_aload_n (pc := 135) dX12_joins_135 rfl rfl ?_
                    refine tz_iload (pc := 136) dX12_joins_136 rfl ?_
                    refine tz_sipush (pc := 138) dX12_joins_138 (by decide) ?_
                    refine tz_irem (pc := 141) (a := (J 178 z_2)) (b := 400) (v := ((J 178 z_2) % 400)) dX12_joins_141 (by omega) (by omega) rfl ?_
                    refine tz_cV (pc := 142) (m_arity hl n _ _ (by omega) b r d s m (hM.cl f_J1.1 f_J1.2) (by omega)) vl_X12_111 dX12_joins_142 o_164 rfl rfl (Nat.le_of_ble_eq_true rfl) ⟨(show 2 + 1 ≤ 5 + 1 * (r9 + 1) by omega), (show 8 + (2 + 11) + 40 * (2) ≤ 40 * (5 + 1 * (r9 + 1)) by omega)⟩ rfl rfl (Nat.le_of_ble_eq_true rfl) (Nat.le_of_ble_eq_true rfl) (fun r9 J_142 hq9 => ?_)
                    obtain ⟨z_142, rfl, hz_142, rfl, hv_142⟩ := hq9
                    rw [mar_cl (J := J) f_J1.1] at hv_142
                    refine tz_icmp_ge (pc := 145) (tgt := 174) dX12_joins_145 (by decide) (by omega) (by omega) (fun h_145 => ?_) (fun h_145 => ?_)
                    · exact tz_vret (pc := 174) dX12_joins_174 rfl (Nat.le_of_ble_eq_true rfl) (Nat.le_of_ble_eq_true rfl) ⟨Nat.le_refl _, Nat.le_add_right _ _⟩ ⟨rfl, ⟨hU1, by omega, f_J1⟩⟩
                    · refine tz_aload_n (pc := 148) dX12_joins_148 rfl rfl ?_
                      refine tz_aload_n (pc := 149) dX12_joins_149 rfl rfl ?_
                      refine tz_iload (pc := 150) dX12_joins_150 rfl ?_
                      refine tz_iload (pc := 152) dX12_joins_152 rfl ?_
                      refine tz_cV (pc := 154) (m_argOf hl n _ _ _ (by omega) (by omega) b r d s m c (hM.cl f_J1.1 f_J1.2) hU.1 (by omega) (by rw [mar_cl (J := J) f_J1.1]; omega)) vl_X12_167 dX12_joins_154 o_164 rfl rfl (Nat.le_of_ble_eq_true rfl) ⟨(show 1 + 1 ≤ 5 + 1 * (r9 + 1) by omega), (show 8 + (3 + 11) + 40 * (1) ≤ 40 * (5 + 1 * (r9 + 1)) by omega)⟩ rfl rfl (Nat.le_of_ble_eq_true rfl) (Nat.le_of_ble_eq_true rfl) (fun r9 J_154 hq9 => ?_)
                      obtain ⟨z_154, rfl, hz_154, rfl, hg_154, hh_154⟩ := hq9
                      refine tz_aload_n (pc := 157) dX12_joins_157 rfl rfl ?_
                      refine tz_iload (pc := 158) dX12_joins_158 rfl ?_
                      refine tz_iload (pc := 160) dX12_joins_160 rfl ?_
                      refine tz_cV (pc := 162) (m_argOf hl n _ _ _ (by omega) (by omega) b r d s m c (hM.cl f_J1.1 f_J1.2) hU.1 (by omega) (by rw [mar_cl (J := J) f_J1.1]; omega)) vl_X12_167 dX12_joins_162 o_164 rfl rfl (Nat.le_of_ble_eq_true rfl) ⟨(show 1 + 1 ≤ 5 + 1 * (r9 + 1) by omega), (show 8 + (3 + 11) + 40 * (1) ≤ 40 * (5 + 1 * (r9 + 1)) by omega)⟩ rfl rfl (Nat.le_of_ble_eq_true rfl) (Nat.le_of_ble_eq_true rfl) (fun r9 J_162 hq9 => ?_)
                      obtain ⟨z_162, rfl, hz_162, rfl, hg_162, hh_162⟩ := hq9
                      refine tz_cV (pc := 165) (ih _ _ _ (by omega) (by omega) b r d s m c (hM.cl f_J1.1 f_J1.2) hU1 ⟨hg_154, hh_154⟩ ⟨hg_162, hh_162⟩ (by omega)) vl_X12_170 dX12_joins_165 o_164 rfl rfl (Nat.le_of_ble_eq_true rfl) ⟨(show (5 + 1 * r9) + 1 ≤ 5 + 1 * (r9 + 1) by omega), (show 8 + (8 + 11) + 40 * ((5 + 1 * r9)) ≤ 40 * (5 + 1 * (r9 + 1)) by omega)⟩ rfl rfl (Nat.le_of_ble_eq_true rfl) (Nat.le_of_ble_eq_true rfl) (fun r9 J_165 hq9 => ?_)
                      obtain ⟨rfl, u_2, r_2, g_2, k_2⟩ := hq9
                      refine tz_iinc (pc := 168) (z := k + 1) (L2 := [_, _, _, _, _, _, _, _]) dX12_joins_168 rfl (by omega) rfl ?_
                      refine tz_goto (pc := 171) (tgt := 133) dX12_joins_171 (by decide) ?_
                      exact ih133 (k + 1) _ (by omega) (by omega) u_2 (by omega) ⟨g_2.tr f_J1.1, fun k hk => (k_2 k hk).trans (f_J1.2 k hk)⟩
                exact loop133 _ 0 _ (Nat.lt_succ_self _) (by omega) hu.1 hu.2 ⟨(zOf.up rfl (zOf.up rfl zOf.rf)), (fun _ _ => rfl)⟩
              · refine tz_aload_n (pc := 124) dX12_joins_124 rfl rfl ?_
                refine tz_iconst (pc := 125) dX12_joins_125 ?_
                refine tz_pZ (pc := 126) (kz := 30) dX12_joins_126 fl_X12_161 i_164_30 rfl rfl (Or.inr rfl) ?_
                exact tz_vret (pc := 129) dX12_joins_129 rfl (Nat.le_of_ble_eq_true rfl) (Nat.le_of_ble_eq_true rfl) ⟨Nat.le_refl _, Nat.le_add_right _ _⟩ ⟨rfl, ⟨hu.1.of rfl rfl rfl, Nat.le_of_lt hu.2, (zOf.up rfl (zOf.up rfl (zOf.up rfl zOf.rf))), (fun k hk => (zup_ne hk).trans ((fun _ _ => rfl) k hk))⟩⟩
            · exact tz_vret (pc := 100) dX12_joins_100 rfl (Nat.le_of_ble_eq_true rfl) (Nat.le_of_ble_eq_true rfl) ⟨Nat.le_refl _, Nat.le_add_right _ _⟩ ⟨rfl, ⟨hu.1, Nat.le_of_lt hu.2, (zOf.up rfl (zOf.up rfl zOf.rf)), (fun _ _ => rfl)⟩⟩
        · refine tz_aload_n (pc := 75) dX12_joins_75 rfl rfl ?_
          refine tz_fR (pc := 76) dX12_joins_76 fl_X12_56 r_164_27 ?_
          refine tz_iload_n (pc := 79) dX12_joins_79 rfl rfl ?_
          refine tz_aload_n (pc := 80) dX12_joins_80 rfl rfl ?_
          refine tz_fR (pc := 81) dX12_joins_81 fl_X12_56 r_164_27 ?_
          refine tz_iload (pc := 84) dX12_joins_84 rfl ?_
          refine tz_aL (pc := 86) (z := z_8) (v := (J 179 z_8)) dX12_joins_86 a_179 rfl (by omega) rfl (fun r_86 => ?_)
          refine tz_aS (pc := 87) (z := z_2) dX12_joins_87 a_179 rfl (by omega) (by omega) ?_
          have hu := UF.joinP (J := J) (J' := (zup (zup (zup J 177 z_8 z_2) 178 z_2 (J 178 z_8)) 179 z_2 (J 179 z_8))) (c := c) (m := m) (a := z_2) (b := z_8) (v := J 178 z_8) (w := J 179 z_8) hU ⟨a_2, c_2 hx.2, b_2⟩ ⟨a_8, c_8 hy.2, b_8⟩ (by omega) (by omega) (by omega) (fun _ => rfl) (fun _ => rfl) (fun _ => rfl)
          refine tz_iload (pc := 88) dX12_joins_88 rfl ?_
          refine tz_iconst (pc := 90) dX12_joins_90 ?_
          refine tz_icmp_eq (pc := 91) (tgt := 100) dX12_joins_91 (by decide) (by omega) (by decide) (fun h_91 => ?_) (fun h_91 => ?_)
          · exact tz_vret (pc := 100) dX12_joins_100 rfl (Nat.le_of_ble_eq_true rfl) (Nat.le_of_ble_eq_true rfl) ⟨Nat.le_refl _, Nat.le_add_right _ _⟩ ⟨rfl, ⟨hu.1, Nat.le_of_lt hu.2, (zOf.up rfl (zOf.up rfl (zOf.up rfl zOf.rf))), (fun _ _ => rfl)⟩⟩
          · refine tz_iload (pc := 94) dX12_joins_94 rfl ?_
            refine tz_iconst (pc := 96) dX12_joins_96 ?_
            refine tz_icmp_ne (pc := 97) (tgt := 101) dX12_joins_97 (by decide) (by omega) (by decide) (fun h_97 => ?_) (fun h_97 => ?_)
            · refine tz_aload_n (pc := 101) dX12_joins_101 rfl rfl ?_
              refine tz_iload (pc := 102) dX12_joins_102 rfl ?_
              refine tz_sipush (pc := 104) dX12_joins_104 (by decide) ?_
              refine tz_irem (pc := 107) (a := (J 178 z_2)) (b := 400) (v := ((J 178 z_2) % 400)) dX12_joins_107 (by omega) (by omega) rfl ?_
              refine tz_cV (pc := 108) (m_head hl n _ _ (by omega) b r d s m (hM.cl (zOf.up rfl (zOf.up rfl (zOf.up rfl zOf.rf))) (fun _ _ => rfl)) (by omega)) vl_X12_74 dX12_joins_108 o_164 rfl rfl (Nat.le_of_ble_eq_true rfl) ⟨(show 0 + 1 ≤ 5 + 1 * (r9 + 1) by omega), (show 8 + (2 + 11) + 40 * (0) ≤ 40 * (5 + 1 * (r9 + 1)) by omega)⟩ rfl rfl (Nat.le_of_ble_eq_true rfl) (Nat.le_of_ble_eq_true rfl) (fun r9 J_108 hq9 => ?_)
              obtain ⟨z_108, rfl, hz_108, rfl, hv_108⟩ := hq9
              have he_108 : ((zup (zup (zup J 177 z_8 z_2) 178 z_2 (J 178 z_8)) 179 z_2 (J 179 z_8)) : zJ) 166 = J 166 := rfl
              rw [he_108] at hv_108
              refine tz_aload_n (pc := 111) dX12_joins_111 rfl rfl ?_
              refine tz_iload (pc := 112) dX12_joins_112 rfl ?_
              refine tz_sipush (pc := 114) dX12_joins_114 (by decide) ?_
              refine tz_irem (pc := 117) (a := (J 178 z_8)) (b := 400) (v := ((J 178 z_8) % 400)) dX12_joins_117 (by omega) (by omega) rfl ?_
              refine tz_cV (pc := 118) (m_head hl n _ _ (by omega) b r d s m (hM.cl (zOf.up rfl (zOf.up rfl (zOf.up rfl zOf.rf))) (fun _ _ => rfl)) (by omega)) vl_X12_74 dX12_joins_118 o_164 rfl rfl (Nat.le_of_ble_eq_true rfl) ⟨(show 0 + 1 ≤ 5 + 1 * (r9 + 1) by omega), (show 8 + (2 + 11) + 40 * (0) ≤ 40 * (5 + 1 * (r9 + 1)) by omega)⟩ rfl rfl (Nat.le_of_ble_eq_true rfl) (Nat.le_of_ble_eq_true rfl) (fun r9 J_118 hq9 => ?_)
              obtain ⟨z_118, rfl, hz_118, rfl, hv_118⟩ := hq9
              have he_118 : ((zup (zup (zup J 177 z_8 z_2) 178 z_2 (J 178 z_8)) 179 z_2 (J 179 z_8)) : zJ) 166 = J 166 := rfl
              rw [he_118] at hv_118
              have ha121 := hM.ar (t := (J 178 z_2) % 400) (by omega)
              refine tz_icmp_eq (pc := 121) (tgt := 130) dX12_joins_121 (by decide) (by omega) (by omega) (fun h_121 => ?_) (fun h_121 => ?_)
              · refine tz_iconst (pc := 130) dX12_joins_130 ?_
                refine tz_istore (pc := 131) (L2 := [_, _, _, _, _, _, _, _]) dX12_joins_131 (by decide) rfl ?_
                have loop133 : ∀ (f9 : Nat) (k : Int) (J1 : zJ), ((3 - k).toNat) < f9 → (0 ≤ k ∧ k ≤ 3) → (UF J1 c m) → (rc J1 < rc J) → (zOf (zbut [164, 177, 178, 179, 180]) J1 J ∧ ∀ k, ¬ k = 30 → J1 164 k = J 164 k) → tz_At l G M_X12_joins (tb_rm (5 + 1 * (r9 + 1)) 0 0) none (tb_ZM G 0 0 (zQ n 0 (zqv (fun J' => UF J' c m ∧ rc J' ≤ rc J ∧ zOf (zbut [164, 177, 178, 179, 180]) J' J ∧ ∀ k, ¬ k = 30 → J' 164 k = J 164 k))) (zX n 0 zN)) 0 0 n J1 133 [some (.ref 164), some (zi x), some (zi y), some (zi z_2), some (zi z_8), some (zi (J 178 z_2)), some (zi (J 178 z_8)), some (zi k)] [] := by
                  intro f9
                  induction f9 with
                  | zero => intro k J1 hm9; exact absurd hm9 (Nat.not_lt_zero _)
                  | succ f9 ih133 =>
                    intro k J1 hm133 hk hU1 hr1 f_J1
                    have e9 := MS.hd8 (J := J) (b := b) (d := d) (t := (J 178 z_2) % 400) (u := (J 178 z_8) % 400) (by omega)
                    have hA := hM.ar (t := (J 178 z_2) % 400) (by omega)
                    refine tz_iload (pc := 133) dX12_joins_133 rfl ?_
                    refine tz_aload_n (pc := 135) dX12_joins_135 rfl rfl ?_
                    refine tz_iload (pc := 136) dX12_joins_136 rfl ?_
                    refine tz_sipush (pc := 138) dX12_joins_138 (by decide) ?_
                    refine tz_irem (pc := 141) (a := (J 178 z_2)) (b := 400) (v := ((J 178 z_2) % 400)) dX12_joins_141 (by omega) (by omega) rfl ?_
                    refine tz_cV (pc := 142) (m_arity hl n _ _ (by omega) b r d s m (hM.cl f_J1.1 f_J1.2) (by omega)) vl_X12_111 dX12_joins_142 o_164 rfl rfl (Nat.le_of_ble_eq_true rfl) ⟨(show 2 + 1 ≤ 5 + 1 * (r9 + 1) by omega), (show 8 + (2 + 11) + 40 * (2) ≤ 40 * (5 + 1 * (r9 + 1)) by omega)⟩ rfl rfl (Nat.le_of_ble_eq_true rfl) (Nat.le_of_ble_eq_true rfl) (fun r9 J_142 hq9 => ?_)
                    obtain ⟨z_142, rfl, hz_142, rfl, hv_142⟩ := hq9
                    rw [mar_cl (J := J) f_J1.1] at hv_142
                    refine tz_icmp_ge (pc := 145) (tgt := 174) dX12_joins_145 (by decide) (by omega) (by omega) (fun h_145 => ?_) (fun h_145 => ?_)
                    · exact tz_vret (pc := 174) dX12_joins_174 rfl (Nat.le_of_ble_eq_true rfl) (Nat.le_of_ble_eq_true rfl) ⟨Nat.le_refl _, Nat.le_add_right _ _⟩ ⟨rfl, ⟨hU1, by omega, f_J1⟩⟩
                    · refine tz_aload_n (pc := 148) dX12_joins_148 rfl rfl ?_
                      refine tz_aload_n (pc := 149) dX12_joins_149 rfl rfl ?_
                      refine tz_iload (pc := 150) dX12_joins_150 rfl ?_
                      refine tz_iload (pc := 152) dX12_joins_152 rfl ?_
                      refine tz_cV (pc := 154) (m_argOf hl n _ _ _ (by omega) (by omega) b r d s m c (hM.cl f_J1.1 f_J1.2) hU.1 (by omega) (by rw [mar_cl (J := J) f_J1.1]; omega)) vl_X12_167 dX12_joins_154 o_164 rfl rfl (Nat.le_of_ble_eq_true rfl) ⟨(show 1 + 1 ≤ 5 + 1 * (r9 + 1) by omega), (show 8 + (3 + 11) + 40 * (1) ≤ 40 * (5 + 1 * (r9 + 1)) by omega)⟩ rfl rfl (Nat.le_of_ble_eq_true rfl) (Nat.le_of_ble_eq_true rfl) (fun r9 J_154 hq9 => ?_)
                      obtain ⟨z_154, rfl, hz_154, rfl, hg_154, hh_154⟩ := hq9
                      refine tz_aload_n (pc := 157) dX12_joins_157 rfl rfl ?_
                      refine tz_iload (pc := 158) dX12_joins_158 rfl ?_
                      refine tz_iload (pc := 160) dX12_joins_160 rfl ?_
                      refine tz_cV (pc := 162) (m_argOf hl n _ _ _ (by omega) (by omega) b r d s m c (hM.cl f_J1.1 f_J1.2) hU.1 (by omega) (by rw [mar_cl (J := J) f_J1.1]; omega)) vl_X12_167 dX12_joins_162 o_164 rfl rfl (Nat.le_of_ble_eq_true rfl) ⟨(show 1 + 1 ≤ 5 + 1 * (r9 + 1) by omega), (show 8 + (3 + 11) + 40 * (1) ≤ 40 * (5 + 1 * (r9 + 1)) by omega)⟩ rfl rfl (Nat.le_of_ble_eq_true rfl) (Nat.le_of_ble_eq_true rfl) (fun r9 J_162 hq9 => ?_)
                      obtain ⟨z_162, rfl, hz_162, rfl, hg_162, hh_162⟩ := hq9
                      refine tz_cV (pc := 165) (ih _ _ _ (by omega) (by omega) b r d s m c (hM.cl f_J1.1 f_J1.2) hU1 ⟨hg_154, hh_154⟩ ⟨hg_162, hh_162⟩ (by omega)) vl_X12_170 dX12_joins_165 o_164 rfl rfl (Nat.le_of_ble_eq_true rfl) ⟨(show (5 + 1 * r9) + 1 ≤ 5 + 1 * (r9 + 1) by omega), (show 8 + (8 + 11) + 40 * ((5 + 1 * r9)) ≤ 40 * (5 + 1 * (r9 + 1)) by omega)⟩ rfl rfl (Nat.le_of_ble_eq_true rfl) (Nat.le_of_ble_eq_true rfl) (fun r9 J_165 hq9 => ?_)
                      obtain ⟨rfl, u_2, r_2, g_2, k_2⟩ := hq9
                      refine tz_iinc (pc := 168) (z := k + 1) (L2 := [_, _, _, _, _, _, _, _]) dX12_joins_168 rfl (by omega) rfl ?_
                      refine tz_goto (pc := 171) (tgt := 133) dX12_joins_171 (by decide) ?_
                      exact ih133 (k + 1) _ (by omega) (by omega) u_2 (by omega) ⟨g_2.tr f_J1.1, fun k hk => (k_2 k hk).trans (f_J1.2 k hk)⟩
                exact loop133 _ 0 _ (Nat.lt_succ_self _) (by omega) hu.1 hu.2 ⟨(zOf.up rfl (zOf.up rfl (zOf.up rfl zOf.rf))), (fun _ _ => rfl)⟩
              · refine tz_aload_n (pc := 124) dX12_joins_124 rfl rfl ?_
                refine tz_iconst (pc := 125) dX12_joins_125 ?_
                refine tz_pZ (pc := 126) (kz := 30) dX12_joins_126 fl_X12_161 i_164_30 rfl rfl (Or.inr rfl) ?_
                exact tz_vret (pc := 129) dX12_joins_129 rfl (Nat.le_of_ble_eq_true rfl) (Nat.le_of_ble_eq_true rfl) ⟨Nat.le_refl _, Nat.le_add_right _ _⟩ ⟨rfl, ⟨hu.1.of rfl rfl rfl, Nat.le_of_lt hu.2, (zOf.up rfl (zOf.up rfl (zOf.up rfl (zOf.up rfl zOf.rf)))), (fun k hk => (zup_ne hk).trans ((fun _ _ => rfl) k hk))⟩⟩
            · exact tz_vret (pc := 100) dX12_joins_100 rfl (Nat.le_of_ble_eq_true rfl) (Nat.le_of_ble_eq_true rfl) ⟨Nat.le_refl _, Nat.le_add_right _ _⟩ ⟨rfl, ⟨hu.1, Nat.le_of_lt hu.2, (zOf.up rfl (zOf.up rfl (zOf.up rfl zOf.rf))), (fun _ _ => rfl)⟩⟩
    · exact tz_vret (pc := 19) dX12_joins_19 rfl (Nat.le_of_ble_eq_true rfl) (Nat.le_of_ble_eq_true rfl) ⟨Nat.le_refl _, Nat.le_add_right _ _⟩ ⟨rfl, ⟨hU, Nat.le_refl _, zOf.rf, fun _ _ => rfl⟩⟩

theorem m_joins {l : Launch} {G : tb_G} (hl : l.stackTraces = false) (n : Nat) (J : zJ) (x y : Int) (hr_x : -2147483648 ≤ x ∧ x < 2147483648) (hr_y : -2147483648 ≤ y ∧ y < 2147483648) (b r d s m : Int) (c : Int) (hM : MS J b r d s m) (hU : UF J c m) (hx : (0 ≤ x ∧ x < c) ∧ x % 400 < m) (hy : (0 ≤ y ∧ y < c) ∧ y % 400 < m) : tz_Ok l G M_X12_joins 806 0 0 [.ref 164, zi x, zi y] n J (zqv (fun J' => UF J' c m ∧ rc J' ≤ rc J ∧ zOf (zbut [164, 177, 178, 179, 180]) J' J ∧ ∀ k, ¬ k = 30 → J' 164 k = J 164 k)) zN := m_joinsR hl n 801 J x y hr_x hr_y b r d s m c hM hU hx hy (by have := cnt_n (p := fun k => decide (J 177 k = k)) 800; unfold rc; omega)
theorem wc_up {J : zJ} {a v : Int} (hv : v = 1 ∨ v = 2) : wc (zup J 180 a v) ≤ wc J := by
  refine cnt_le 800 (fun k p q g => ?_)
  have g1 := of_decide_eq_true g
  have e7 : zup J 180 a v 180 k = if k = a then v else J 180 k := rfl
  rw [e7] at g1
  by_cases e : k = a
  · rw [if_pos e] at g1; omega
  · rw [if_neg e] at g1; exact decide_eq_true g1
theorem wc_up1 {J : zJ} {a v : Int} (hv : v = 1 ∨ v = 2) (ha : 0 ≤ a ∧ a < 800) (h : ¬ J 180 a = 1 ∧ ¬ J 180 a = 2) : wc (zup J 180 a v) < wc J := by
  refine cnt_lt 800 (fun k p q g => ?_) ⟨a, ha, decide_eq_true h, decide_eq_false ?_⟩
  · have g1 := of_decide_eq_true g
    have e7 : zup J 180 a v 180 k = if k = a then v else J 180 k := rfl
    rw [e7] at g1
    by_cases e : k = a
    · rw [if_pos e] at g1; omega
    · rw [if_neg e] at g1; exact decide_eq_true g1
  · have e7 : zup J 180 a v 180 a = if a = a then v else J 180 a := rfl
    rw [e7, if_pos rfl]
    omega
theorem MS.c180 {J' J : zJ} {b r d s m : Int} (h : MS J b r d s m) (f : zOf (zbut [180]) J' J) : MS J' b r d s m := h.of (by rw [f 164 rfl]; exact ⟨rfl, rfl, rfl⟩) (by rw [f 165 rfl]) (f 166 rfl) (f 167 rfl) (f 168 rfl) (f 170 rfl)
theorem UF.c180 {J' J : zJ} {c m : Int} (h : UF J c m) (f : zOf (zbut [180]) J' J) : UF J' c m := h.of (f 177 rfl) (f 178 rfl) (f 179 rfl)
theorem mar_180 {J' J : zJ} {b d t : Int} (f : zOf (zbut [180]) J' J) : mar J' b d t = mar J b d t := by
  unfold mar
  rw [f 166 rfl, f 170 rfl]
set_option maxHeartbeats 4000000 in
set_option maxRecDepth 100000 in
theorem m_turnsR {l : Launch} {G : tb_G} (hl : l.stackTraces = false) (n : Nat) : ∀ (r9 : Nat) (J : zJ) (x : Int) (hr_x : -2147483648 ≤ x ∧ x < 2147483648) (b r d s m : Int) (c : Int) (hM : MS J b r d s m) (hU : UF J c m) (hx : (0 ≤ x ∧ x < c) ∧ x % 400 < m), (wc J) < r9 → tz_Ok l G M_X12_turns (5 + 1 * r9) 0 0 [.ref 164, zi x] n J (zqi (fun z J' => wc J' ≤ wc J ∧ zOf (zbut [180]) J' J)) zN := by
  intro r9
  induction r9 with
  | zero => intro J x hr_x b r d s m c hM hU hx hm9; exact absurd hm9 (Nat.not_lt_zero _)
  | succ r9 ih =>
    intro J x hr_x b r d s m c hM hU hx hm9
    refine tz_Ok.of hl (by decide +kernel) rfl (tb_c1 rfl) (Nat.le_of_ble_eq_true rfl) ?_
    show tz_At l G M_X12_turns (tb_rm (5 + 1 * (r9 + 1)) 0 0) none (tb_ZM G 0 0 (zQ n 0 (zqi (fun z J' => wc J' ≤ wc J ∧ zOf (zbut [180]) J' J))) (zX n 0 zN)) 0 0 n J 0 [some (.ref 164), some (zi x), none, none] []
    obtain ⟨hM1, hM2, hM3, hM4, hM5, hM6⟩ := id hM
    have hT := hM.told
    have hc9 := hU.1
    refine tz_aload_n (pc := 0) dX12_turns_0 rfl rfl ?_
    refine tz_iload_n (pc := 1) dX12_turns_1 rfl rfl ?_
    refine tz_cV (pc := 2) (m_top hl n _ _ (by omega) c m hU (by omega)) vl_X12_164 dX12_turns_2 o_164 rfl rfl (Nat.le_of_ble_eq_true rfl) ⟨(show 0 + 1 ≤ 5 + 1 * (r9 + 1) by omega), (show 8 + (3 + 11) + 40 * (0) ≤ 40 * (5 + 1 * (r9 + 1)) by omega)⟩ rfl rfl (Nat.le_of_ble_eq_true rfl) (Nat.le_of_ble_eq_true rfl) (fun r9 J_2 hq9 => ?_)
    obtain ⟨z_2, rfl, hz_2, rfl, a_2, b_2, c_2⟩ := hq9
    refine tz_istore_n (pc := 5) (L2 := [_, _, _, _]) dX12_turns_5 rfl (by decide) rfl ?_
    have ua := (hU.at a_2).2
    have va := c_2 hx.2
    refine tz_aload_n (pc := 6) dX12_turns_6 rfl rfl ?_
    refine tz_fR (pc := 7) dX12_turns_7 fl_X12_59 r_164_28 ?_
    refine tz_iload_n (pc := 10) dX12_turns_10 rfl rfl ?_
    refine tz_aL (pc := 11) (z := z_2) (v := (J 180 z_2)) dX12_turns_11 a_180 rfl (by omega) rfl (fun r_11 => ?_)
    refine tz_iconst (pc := 12) dX12_turns_12 ?_
    refine tz_icmp_eq (pc := 13) (tgt := 26) dX12_turns_13 (by decide) (by omega) (by decide) (fun h_13 => ?_) (fun h_13 => ?_)
    · refine tz_iconst (pc := 26) dX12_turns_26 ?_
      exact tz_zret (pc := 27) (z := 0) dX12_turns_27 rfl (Or.inl rfl) (Nat.le_of_ble_eq_true rfl) (Nat.le_of_ble_eq_true rfl) ⟨Nat.le_refl _, Nat.le_add_right _ _⟩ ⟨_, rfl, (by decide), ⟨Nat.le_refl _, zOf.rf⟩⟩
    · refine tz_aload_n (pc := 16) dX12_turns_16 rfl rfl ?_
      refine tz_fR (pc := 17) dX12_turns_17 fl_X12_53 r_164_26 ?_
      refine tz_iload_n (pc := 20) dX12_turns_20 rfl rfl ?_
      refine tz_aL (pc := 21) (z := z_2) (v := (J 178 z_2)) dX12_turns_21 a_178 rfl (by omega) rfl (fun r_21 => ?_)
      refine tz_iconst (pc := 22) dX12_turns_22 ?_
      refine tz_icmp_ne (pc := 23) (tgt := 28) dX12_turns_23 (by decide) (by omega) (by decide) (fun h_23 => ?_) (fun h_23 => ?_)
      · refine tz_aload_n (pc := 28) dX12_turns_28 rfl rfl ?_
        refine tz_fR (pc := 29) dX12_turns_29 fl_X12_59 r_164_28 ?_
        refine tz_iload_n (pc := 32) dX12_turns_32 rfl rfl ?_
        refine tz_aL (pc := 33) (z := z_2) (v := (J 180 z_2)) dX12_turns_33 a_180 rfl (by omega) rfl (fun r_33 => ?_)
        refine tz_iconst (pc := 34) dX12_turns_34 ?_
        refine tz_icmp_ne (pc := 35) (tgt := 40) dX12_turns_35 (by decide) (by omega) (by decide) (fun h_35 => ?_) (fun h_35 => ?_)
        · refine tz_aload_n (pc := 40) dX12_turns_40 rfl rfl ?_
          refine tz_fR (pc := 41) dX12_turns_41 fl_X12_59 r_164_28 ?_
          refine tz_iload_n (pc := 44) dX12_turns_44 rfl rfl ?_
          refine tz_iconst (pc := 45) dX12_turns_45 ?_
          refine tz_aS (pc := 46) (z := z_2) dX12_turns_46 a_180 rfl (by omega) (by decide) ?_
          have hw47 := wc_up1 (J := J) (a := z_2) (v := 1) (Or.inl rfl) (by omega) (by omega)
          refine tz_iconst (pc := 47) dX12_turns_47 ?_
          refine tz_istore_n (pc := 48) (L2 := [_, _, _, _]) dX12_turns_48 rfl (by decide) rfl ?_
          have loop49 : ∀ (f9 : Nat) (k : Int) (J1 : zJ), ((3 - k).toNat) < f9 → (0 ≤ k ∧ k ≤ 3) → (wc J1 < wc J) → (zOf (zbut [180]) J1 J) → tz_At l G M_X12_turns (tb_rm (5 + 1 * (r9 + 1)) 0 0) none (tb_ZM G 0 0 (zQ n 0 (zqi (fun z J' => wc J' ≤ wc J ∧ zOf (zbut [180]) J' J))) (zX n 0 zN)) 0 0 n J1 49 [some (.ref 164), some (zi x), some (zi z_2), some (zi k)] [] := by
            intro f9
            induction f9 with
            | zero => intro k J1 hm9; exact absurd hm9 (Nat.not_lt_zero _)
            | succ f9 ih49 =>
              intro k J1 hm49 hk hw1 f1
              have hA := hM.ar (t := (J 178 z_2) % 400) (by omega)
              refine tz_iload_n (pc := 49) dX12_turns_49 rfl rfl ?_
              refine tz_aload_n (pc := 50) dX12_turns_50 rfl rfl ?_
              refine tz_aload_n (pc := 51) dX12_turns_51 rfl rfl ?_
              refine tz_fR (pc := 52) dX12_turns_52 fl_X12_53 r_164_26 ?_
              refine tz_iload_n (pc := 55) dX12_turns_55 rfl rfl ?_
              refine tz_aL (pc := 56) (z := z_2) (v := (J 178 z_2)) dX12_turns_56 a_178 rfl (by omega) (Eq.trans (congrFun (f1 178 rfl) z_2) rfl) (fun r_56 => ?_)
              refine tz_sipush (pc := 57) dX12_turns_57 (by decide) ?_
              refine tz_irem (pc := 60) (a := (J 178 z_2)) (b := 400) (v := ((J 178 z_2) % 400)) dX12_turns_60 (by omega) (by omega) rfl ?_
              refine tz_cV (pc := 61) (m_arity hl n _ _ (by omega) b r d s m (hM.c180 f1) (by omega)) vl_X12_111 dX12_turns_61 o_164 rfl rfl (Nat.le_of_ble_eq_true rfl) ⟨(show 2 + 1 ≤ 5 + 1 * (r9 + 1) by omega), (show 8 + (2 + 11) + 40 * (2) ≤ 40 * (5 + 1 * (r9 + 1)) by omega)⟩ rfl rfl (Nat.le_of_ble_eq_true rfl) (Nat.le_of_ble_eq_true rfl) (fun r9 J_61 hq9 => ?_)
              obtain ⟨za, rfl, hz_61, rfl, hv⟩ := hq9
              rw [mar_180 (J := J) f1] at hv
              refine tz_icmp_ge (pc := 64) (tgt := 93) dX12_turns_64 (by decide) (by omega) (by omega) (fun h_64 => ?_) (fun h_64 => ?_)
              · refine tz_aload_n (pc := 93) dX12_turns_93 rfl rfl ?_
                refine tz_fR (pc := 94) dX12_turns_94 fl_X12_59 r_164_28 ?_
                refine tz_iload_n (pc := 97) dX12_turns_97 rfl rfl ?_
                refine tz_iconst (pc := 98) dX12_turns_98 ?_
                refine tz_aS (pc := 99) (z := z_2) dX12_turns_99 a_180 rfl (by omega) (by decide) ?_
                refine tz_iconst (pc := 100) dX12_turns_100 ?_
                exact tz_zret (pc := 101) (z := 0) dX12_turns_101 rfl (Or.inl rfl) (Nat.le_of_ble_eq_true rfl) (Nat.le_of_ble_eq_true rfl) ⟨Nat.le_refl _, Nat.le_add_right _ _⟩ ⟨_, rfl, (by decide), ⟨by have := wc_up (J := J1) (a := z_2) (v := 2) (Or.inr rfl); omega, zOf.up rfl f1⟩⟩
              · refine tz_aload_n (pc := 67) dX12_turns_67 rfl rfl ?_
                refine tz_aload_n (pc := 68) dX12_turns_68 rfl rfl ?_
                refine tz_aload_n (pc := 69) dX12_turns_69 rfl rfl ?_
                refine tz_fR (pc := 70) dX12_turns_70 fl_X12_53 r_164_26 ?_
                refine tz_iload_n (pc := 73) dX12_turns_73 rfl rfl ?_
                refine tz_aL (pc := 74) (z := z_2) (v := (J 178 z_2)) dX12_turns_74 a_178 rfl (by omega) (Eq.trans (congrFun (f1 178 rfl) z_2) rfl) (fun r_74 => ?_)
                refine tz_iload_n (pc := 75) dX12_turns_75 rfl rfl ?_
                refine tz_cV (pc := 76) (m_argOf hl n _ _ _ (by omega) (by omega) b r d s m c (hM.c180 f1) hU.1 (by omega) (by rw [mar_180 (J := J) f1]; omega)) vl_X12_167 dX12_turns_76 o_164 rfl rfl (Nat.le_of_ble_eq_true rfl) ⟨(show 1 + 1 ≤ 5 + 1 * (r9 + 1) by omega), (show 8 + (3 + 11) + 40 * (1) ≤ 40 * (5 + 1 * (r9 + 1)) by omega)⟩ rfl rfl (Nat.le_of_ble_eq_true rfl) (Nat.le_of_ble_eq_true rfl) (fun r9 J_76 hq9 => ?_)
                obtain ⟨zg, rfl, hz_76, rfl, hg, hh⟩ := hq9
                refine tz_cV (pc := 79) (ih _ _ (by omega) b r d s m c (hM.c180 f1) (hU.c180 f1) ⟨hg, hh⟩ (by omega)) vl_X12_174 dX12_turns_79 o_164 rfl rfl (Nat.le_of_ble_eq_true rfl) ⟨(show (5 + 1 * r9) + 1 ≤ 5 + 1 * (r9 + 1) by omega), (show 8 + (4 + 11) + 40 * ((5 + 1 * r9)) ≤ 40 * (5 + 1 * (r9 + 1)) by omega)⟩ rfl rfl (Nat.le_of_ble_eq_true rfl) (Nat.le_of_ble_eq_true rfl) (fun r9 J_79 hq9 => ?_)
                obtain ⟨z_79, rfl, hz_79, w2, f2⟩ := hq9
                refine tz_if_eq (pc := 82) (tgt := 87) dX12_turns_82 (by decide) (by omega) (fun h_82 => ?_) (fun h_82 => ?_)
                · refine tz_iinc (pc := 87) (z := k + 1) (L2 := [_, _, _, _]) dX12_turns_87 rfl (by omega) rfl ?_
                  refine tz_goto (pc := 90) (tgt := 49) dX12_turns_90 (by decide) ?_
                  exact ih49 (k + 1) _ (by omega) (by omega) (by omega) (f2.tr f1)
                · refine tz_iconst (pc := 85) dX12_turns_85 ?_
                  exact tz_zret (pc := 86) (z := 1) dX12_turns_86 rfl (Or.inr rfl) (Nat.le_of_ble_eq_true rfl) (Nat.le_of_ble_eq_true rfl) ⟨Nat.le_refl _, Nat.le_add_right _ _⟩ ⟨_, rfl, (by decide), ⟨by omega, f2.tr f1⟩⟩
          exact loop49 _ 0 _ (Nat.lt_succ_self _) (by omega) hw47 (zOf.up rfl zOf.rf)
        · refine tz_iconst (pc := 38) dX12_turns_38 ?_
          exact tz_zret (pc := 39) (z := 1) dX12_turns_39 rfl (Or.inr rfl) (Nat.le_of_ble_eq_true rfl) (Nat.le_of_ble_eq_true rfl) ⟨Nat.le_refl _, Nat.le_add_right _ _⟩ ⟨_, rfl, (by decide), ⟨Nat.le_refl _, zOf.rf⟩⟩
      · refine tz_iconst (pc := 26) dX12_turns_26 ?_
        exact tz_zret (pc := 27) (z := 0) dX12_turns_27 rfl (Or.inl rfl) (Nat.le_of_ble_eq_true rfl) (Nat.le_of_ble_eq_true rfl) ⟨Nat.le_refl _, Nat.le_add_right _ _⟩ ⟨_, rfl, (by decide), ⟨Nat.le_refl _, zOf.rf⟩⟩

theorem m_turns {l : Launch} {G : tb_G} (hl : l.stackTraces = false) (n : Nat) (J : zJ) (x : Int) (hr_x : -2147483648 ≤ x ∧ x < 2147483648) (b r d s m : Int) (c : Int) (hM : MS J b r d s m) (hU : UF J c m) (hx : (0 ≤ x ∧ x < c) ∧ x % 400 < m) : tz_Ok l G M_X12_turns 806 0 0 [.ref 164, zi x] n J (zqi (fun z J' => wc J' ≤ wc J ∧ zOf (zbut [180]) J' J)) zN := m_turnsR hl n 801 J x hr_x b r d s m c hM hU hx (by have := cnt_n (p := fun k => decide (¬ J 180 k = 1 ∧ ¬ J 180 k = 2)) 800; unfold wc; omega)
set_option maxHeartbeats 4000000 in
set_option maxRecDepth 100000 in
theorem m_unifies {l : Launch} {G : tb_G} (hl : l.stackTraces = false) (n : Nat) (J : zJ) (x : Int) (y : Int) (hr_x : -2147483648 ≤ x ∧ x < 2147483648) (hr_y : -2147483648 ≤ y ∧ y < 2147483648) (b r d s m : Int) (c : Int) (hM : MS J b r d s m) (hc : c = 400 ∨ c = 800) (hx : (0 ≤ x ∧ x < c) ∧ x % 400 < m) (hy : (0 ≤ y ∧ y < c) ∧ y % 400 < m) : tz_Ok l G M_X12_unifies 807 0 0 [.ref 164, zi x, zi y] n J (zqi (fun z J' => UF J' c m ∧ (0 ≤ z ∧ z ≤ 2) ∧ zOf (zbut [164, 177, 178, 179, 180]) J' J ∧ ∀ k, ¬ k = 30 → J' 164 k = J 164 k)) zN := by
  refine tz_Ok.of hl (by decide +kernel) rfl (tb_c1 rfl) (Nat.le_of_ble_eq_true rfl) ?_
  show tz_At l G M_X12_unifies (tb_rm 807 0 0) none (tb_ZM G 0 0 (zQ n 0 (zqi (fun z J' => UF J' c m ∧ (0 ≤ z ∧ z ≤ 2) ∧ zOf (zbut [164, 177, 178, 179, 180]) J' J ∧ ∀ k, ¬ k = 30 → J' 164 k = J 164 k))) (zX n 0 zN)) 0 0 n J 0 [some (.ref 164), some (zi x), some (zi y)] []
  obtain ⟨hM1, hM2, hM3, hM4, hM5, hM6⟩ := id hM
  have hT := hM.told
  refine tz_aload_n (pc := 0) dX12_unifies_0 rfl rfl ?_
  refine tz_cV (pc := 1) (m_begCl hl n _ b r d s m hM) vl_X12_177 dX12_unifies_1 o_164 rfl rfl (Nat.le_of_ble_eq_true rfl) ⟨(Nat.le_of_ble_eq_true rfl), (Nat.le_of_ble_eq_true rfl)⟩ rfl rfl (Nat.le_of_ble_eq_true rfl) (Nat.le_of_ble_eq_true rfl) (fun r9 J_1 hq9 => ?_)
  obtain ⟨rfl, u8, u4, -, f_1, g_1⟩ := hq9
  have f_1 := And.intro f_1 g_1
  have hU : UF J_1 c m := by rcases hc with e | e <;> (subst e; assumption)
  refine tz_aload_n (pc := 4) dX12_unifies_4 rfl rfl ?_
  refine tz_iload_n (pc := 5) dX12_unifies_5 rfl rfl ?_
  refine tz_iload_n (pc := 6) dX12_unifies_6 rfl rfl ?_
  refine tz_cV (pc := 7) (m_joins hl n _ _ _ (by omega) (by omega) b r d s m c (hM.cl f_1.1 f_1.2) hU hx hy) vl_X12_170 dX12_unifies_7 o_164 rfl rfl (Nat.le_of_ble_eq_true rfl) ⟨(Nat.le_of_ble_eq_true rfl), (Nat.le_of_ble_eq_true rfl)⟩ rfl rfl (Nat.le_of_ble_eq_true rfl) (Nat.le_of_ble_eq_true rfl) (fun r9 J_7 hq9 => ?_)
  obtain ⟨rfl, u7, -, f_7, g_7⟩ := hq9
  have f_7 : zOf (zbut [164, 177, 178, 179, 180]) J_7 J ∧ ∀ k, ¬ k = 30 → J_7 164 k = J 164 k := ⟨f_7.tr f_1.1, fun k hk => (g_7 k hk).trans (f_1.2 k hk)⟩
  refine tz_aload_n (pc := 10) dX12_unifies_10 rfl rfl ?_
  refine tz_fI (pc := 11) (kz := 30) (v := (J_7 164 30)) dX12_unifies_11 fl_X12_161 i_164_30 rfl rfl (fun r_11 => ?_)
  refine tz_if_eq (pc := 14) (tgt := 21) dX12_unifies_14 (by decide) (by omega) (fun h_14 => ?_) (fun h_14 => ?_)
  · refine tz_aload_n (pc := 21) dX12_unifies_21 rfl rfl ?_
    refine tz_iload_n (pc := 22) dX12_unifies_22 rfl rfl ?_
    refine tz_cV (pc := 23) (m_turns hl n _ _ (by omega) b r d s m c (hM.cl f_7.1 f_7.2) u7 hx) vl_X12_174 dX12_unifies_23 o_164 rfl rfl (Nat.le_of_ble_eq_true rfl) ⟨(Nat.le_of_ble_eq_true rfl), (Nat.le_of_ble_eq_true rfl)⟩ rfl rfl (Nat.le_of_ble_eq_true rfl) (Nat.le_of_ble_eq_true rfl) (fun r9 J_23 hq9 => ?_)
    obtain ⟨z_23, rfl, hz_23, -, t_23⟩ := hq9
    have f_23 : zOf (zbut [164, 177, 178, 179, 180]) J_23 J ∧ ∀ k, ¬ k = 30 → J_23 164 k = J 164 k := ⟨(t_23.mono (zbut_sub (fun c hc => by simp at hc ⊢; omega))).tr f_7.1, fun k hk => (congrFun (t_23 164 rfl) k).trans (f_7.2 k hk)⟩
    have u23 : UF J_23 c m := u7.c180 t_23
    refine tz_if_ne (pc := 26) (tgt := 37) dX12_unifies_26 (by decide) (by omega) (fun h_26 => ?_) (fun h_26 => ?_)
    · refine tz_iconst (pc := 37) dX12_unifies_37 ?_
      refine tz_goto (pc := 38) (tgt := 42) dX12_unifies_38 (by decide) ?_
      exact tz_iret (pc := 42) (z := 2) dX12_unifies_42 rfl (Nat.le_of_ble_eq_true rfl) (Nat.le_of_ble_eq_true rfl) ⟨Nat.le_refl _, Nat.le_add_right _ _⟩ ⟨_, rfl, (by decide), ⟨u23, by omega, f_23⟩⟩
    · refine tz_aload_n (pc := 29) dX12_unifies_29 rfl rfl ?_
      refine tz_iload_n (pc := 30) dX12_unifies_30 rfl rfl ?_
      refine tz_cV (pc := 31) (m_turns hl n _ _ (by omega) b r d s m c (hM.cl f_23.1 f_23.2) u23 hy) vl_X12_174 dX12_unifies_31 o_164 rfl rfl (Nat.le_of_ble_eq_true rfl) ⟨(Nat.le_of_ble_eq_true rfl), (Nat.le_of_ble_eq_true rfl)⟩ rfl rfl (Nat.le_of_ble_eq_true rfl) (Nat.le_of_ble_eq_true rfl) (fun r9 J_31 hq9 => ?_)
      obtain ⟨z_31, rfl, hz_31, -, t_31⟩ := hq9
      have f_31 : zOf (zbut [164, 177, 178, 179, 180]) J_31 J ∧ ∀ k, ¬ k = 30 → J_31 164 k = J 164 k := ⟨(t_31.mono (zbut_sub (fun c hc => by simp at hc ⊢; omega))).tr f_23.1, fun k hk => (congrFun (t_31 164 rfl) k).trans (f_23.2 k hk)⟩
      have u31 : UF J_31 c m := u23.c180 t_31
      refine tz_if_eq (pc := 34) (tgt := 41) dX12_unifies_34 (by decide) (by omega) (fun h_34 => ?_) (fun h_34 => ?_)
      · refine tz_iconst (pc := 41) dX12_unifies_41 ?_
        exact tz_iret (pc := 42) (z := 1) dX12_unifies_42 rfl (Nat.le_of_ble_eq_true rfl) (Nat.le_of_ble_eq_true rfl) ⟨Nat.le_refl _, Nat.le_add_right _ _⟩ ⟨_, rfl, (by decide), ⟨u31, by omega, f_31⟩⟩
      · refine tz_iconst (pc := 37) dX12_unifies_37 ?_
        refine tz_goto (pc := 38) (tgt := 42) dX12_unifies_38 (by decide) ?_
        exact tz_iret (pc := 42) (z := 2) dX12_unifies_42 rfl (Nat.le_of_ble_eq_true rfl) (Nat.le_of_ble_eq_true rfl) ⟨Nat.le_refl _, Nat.le_add_right _ _⟩ ⟨_, rfl, (by decide), ⟨u31, by omega, f_31⟩⟩
  · refine tz_iconst (pc := 17) dX12_unifies_17 ?_
    refine tz_goto (pc := 18) (tgt := 42) dX12_unifies_18 (by decide) ?_
    exact tz_iret (pc := 42) (z := 0) dX12_unifies_42 rfl (Nat.le_of_ble_eq_true rfl) (Nat.le_of_ble_eq_true rfl) ⟨Nat.le_refl _, Nat.le_add_right _ _⟩ ⟨_, rfl, (by decide), ⟨u7, by omega, f_7⟩⟩

