/-! ===== years of the reference: all is as before ===== -/
theorem MOP.rf {J : zJ} {m : Int} : MOP J J m := ⟨⟨fun _ _ => rfl, fun _ _ _ => ⟨rfl, rfl⟩, fun _ _ _ => rfl, rfl, rfl⟩, fun _ _ => rfl, ⟨rfl, rfl, rfl⟩, fun _ _ _ => ⟨rfl, rfl⟩, fun _ _ _ => rfl, fun _ _ _ => ⟨rfl, rfl, rfl⟩⟩
theorem MOP.tr {J2 J1 J : zJ} {m m1 : Int} (g : MOP J1 J m) (h : MOP J2 J1 m1) (l : m ≤ m1) : MOP J2 J m := by
  obtain ⟨a, b, ⟨c1, c2, c3⟩, d, e, f⟩ := g
  obtain ⟨a', b', ⟨c1', c2', c3'⟩, d', e', f'⟩ := h
  exact ⟨a.tr a', fun k q => (b' k q).trans (b k q), ⟨c1'.trans c1, c2'.trans c2, c3'.trans c3⟩, fun t p q => ⟨(d' t p (by omega)).1.trans (d t p q).1, (d' t p (by omega)).2.trans (d t p q).2⟩, fun k p q => (e' k p (by omega)).trans (e k p q), fun k p q => ⟨(f' k p q).1.trans (f k p q).1, (f' k p q).2.1.trans (f k p q).2.1, (f' k p q).2.2.trans (f k p q).2.2⟩⟩
theorem MOP.mgd {Jo Jb : zJ} {s m m' : Int} (g : MG [] [46] (fun _ => false) Jo Jb 0 0 0 s m m') : MOP Jo Jb m := by
  obtain ⟨g1, g2, ⟨f1, f2, f3, f4⟩, g4⟩ := g
  refine ⟨⟨fun k a => f2 k (by omega) rfl, fun k a b => f1.1 k (by omega), fun k a b => f1.2 k (by omega), f3 12 (by decide), f3 13 (by decide)⟩, fun k a => f2 k (by omega) rfl, ⟨f3 9 (by decide), f3 10 (by decide), f3 11 (by decide)⟩, fun t a b => ?_, fun k a b => ?_, fun k _ _ => ⟨by rw [f4 169 rfl], by rw [f4 170 rfl], by rw [f4 171 rfl]⟩⟩
  · have := (g2 t a b).1
    rw [Int.zero_add] at this
    exact this
  · have := (g2 (k / 3) (by omega) (by omega)).2 (k % 3) (by omega) (by omega)
    rw [show 3 * (0 + k / 3) + k % 3 = k from by omega] at this
    exact this
theorem MOP.i46 {J : zJ} {m v : Int} : MOP (zup J 164 46 v) J m := ⟨⟨fun _ _ => rfl, fun _ _ _ => ⟨rfl, rfl⟩, fun _ _ _ => rfl, rfl, rfl⟩, fun _ _ => rfl, ⟨rfl, rfl, rfl⟩, fun _ _ _ => ⟨rfl, rfl⟩, fun _ _ _ => rfl, fun _ _ _ => ⟨rfl, rfl, rfl⟩⟩
set_option maxHeartbeats 4000000 in
set_option maxRecDepth 100000 in
theorem v_qyears {l : Launch} {G : tb_G} (hl : l.stackTraces = false) (n : Nat) (J : zJ) (x : Int) (y : Int) (v : Int) (hr_x : -2147483648 ≤ x ∧ x < 2147483648) (hr_y : -2147483648 ≤ y ∧ y < 2147483648) (hr_v : -2147483648 ≤ v ∧ v < 2147483648) (m : Int) (pn : Int) (RR : Int → Int → Int) (hI : MI J m) (u9 : MUr J pn RR) : tz_Ok l G M_X12_years 731 0 0 [.ref 164, zi x, zi y, zi v] n J (zqi (fun z J' => MQr J' J ∧ MFI J' J ∧ (MBT J' (tbz J) ∧ MUr J' pn RR))) zN := by
  refine tz_Ok.of hl (by decide +kernel) rfl (tb_c1 rfl) (Nat.le_of_ble_eq_true rfl) ?_
  show tz_At l G M_X12_years (tb_rm 731 0 0) none (tb_ZM G 0 0 (zQ n 0 (zqi (fun z J' => MQr J' J ∧ MFI J' J ∧ (MBT J' (tbz J) ∧ MUr J' pn RR)))) (zX n 0 zN)) 0 0 n J 0 [some (.ref 164), some (zi x), some (zi y), some (zi v), none, none, none, none, none] []
  have hT := hI.told
  have hW := hI.row
  have hM := hI.1
  have hL := hI.2.1
  refine tz_aload_n (pc := 0) dX12_years_0 rfl rfl ?_
  refine tz_iconst (pc := 1) dX12_years_1 ?_
  refine tz_pI (pc := 2) (kz := 8) dX12_years_2 fl_X12_68 i_164_8 rfl rfl (by decide) ?_
  refine tz_aload_n (pc := 5) dX12_years_5 rfl rfl ?_
  refine tz_iload_n (pc := 6) dX12_years_6 rfl rfl ?_
  refine tz_iconst (pc := 7) dX12_years_7 ?_
  refine tz_iconst (pc := 8) dX12_years_8 ?_
  refine tz_cS (pc := 9) (m_within hl n _ _ _ _ (by omega) (by decide) (by decide)) sl_X12_283 dX12_years_9 rfl rfl (Nat.le_of_ble_eq_true rfl) ⟨(Nat.le_of_ble_eq_true rfl), (Nat.le_of_ble_eq_true rfl)⟩ rfl rfl (Nat.le_of_ble_eq_true rfl) (Nat.le_of_ble_eq_true rfl) (fun r9 J_9 hq9 => ?_)
  obtain ⟨z_9, rfl, hz_9, rfl, hw_9⟩ := hq9
  refine tz_iconst (pc := 12) dX12_years_12 ?_
  refine tz_cV (pc := 13) (m_right hl n _ _ _ (by omega) (by decide) (by decide)) vl_X12_334 dX12_years_13 o_164 rfl rfl (Nat.le_of_ble_eq_true rfl) ⟨(Nat.le_of_ble_eq_true rfl), (Nat.le_of_ble_eq_true rfl)⟩ rfl rfl (Nat.le_of_ble_eq_true rfl) (Nat.le_of_ble_eq_true rfl) (fun r9 J_13 hq9 => ?_)
  obtain ⟨z_13, rfl, hz_13, f_13, b_13, c_13⟩ := hq9
  have x_13 : MZ J_13 (zup J 164 8 0) := MZ.f f_13 (by decide) (by decide)
  have y_13 := MZ.tr (MZ.up (k := 8) MZ.rf (by decide)) x_13
  have e_13 : z_13 = 1 → ¬ z_9 = 0 := fun q9 => (c_13 q9).2.2.resolve_right (by decide)
  refine tz_if_eq (pc := 16) (tgt := 34) dX12_years_16 (by decide) (by omega) (fun h_16 => ?_) (fun h_16 => ?_)
  · refine tz_iconst (pc := 34) dX12_years_34 ?_
    exact tz_iret (pc := 35) (z := 0) dX12_years_35 rfl (Nat.le_of_ble_eq_true rfl) (Nat.le_of_ble_eq_true rfl) ⟨Nat.le_refl _, Nat.le_add_right _ _⟩ ⟨_, rfl, (by decide), ⟨MQr.z hI y_13, MFI.z y_13, MBT.z hI y_13, u9.z y_13⟩⟩
  · refine tz_aload_n (pc := 19) dX12_years_19 rfl rfl ?_
    refine tz_iload_n (pc := 20) dX12_years_20 rfl rfl ?_
    refine tz_iconst (pc := 21) dX12_years_21 ?_
    refine tz_bipush (pc := 22) dX12_years_22 (by decide) ?_
    refine tz_cS (pc := 24) (m_within hl n _ _ _ _ (by omega) (by decide) (by decide)) sl_X12_283 dX12_years_24 rfl rfl (Nat.le_of_ble_eq_true rfl) ⟨(Nat.le_of_ble_eq_true rfl), (Nat.le_of_ble_eq_true rfl)⟩ rfl rfl (Nat.le_of_ble_eq_true rfl) (Nat.le_of_ble_eq_true rfl) (fun r9 J_24 hq9 => ?_)
    obtain ⟨z_24, rfl, hz_24, rfl, hw_24⟩ := hq9
    refine tz_iconst (pc := 27) dX12_years_27 ?_
    refine tz_cV (pc := 28) (m_right hl n _ _ _ (by omega) (by decide) (by decide)) vl_X12_334 dX12_years_28 o_164 rfl rfl (Nat.le_of_ble_eq_true rfl) ⟨(Nat.le_of_ble_eq_true rfl), (Nat.le_of_ble_eq_true rfl)⟩ rfl rfl (Nat.le_of_ble_eq_true rfl) (Nat.le_of_ble_eq_true rfl) (fun r9 J_28 hq9 => ?_)
    obtain ⟨z_28, rfl, hz_28, f_28, b_28, c_28⟩ := hq9
    have x_28 : MZ J_28 J_13 := MZ.f f_28 (by decide) (by decide)
    have y_28 := MZ.tr y_13 x_28
    have e_28 : z_28 = 1 → ¬ z_24 = 0 := fun q9 => (c_28 q9).2.2.resolve_right (by decide)
    refine tz_if_ne (pc := 31) (tgt := 36) dX12_years_31 (by decide) (by omega) (fun h_31 => ?_) (fun h_31 => ?_)
    · refine tz_aload_n (pc := 36) dX12_years_36 rfl rfl ?_
      refine tz_cV (pc := 37) (m_begins hl n _) vl_X12_400 dX12_years_37 o_164 rfl rfl (Nat.le_of_ble_eq_true rfl) ⟨(Nat.le_of_ble_eq_true rfl), (Nat.le_of_ble_eq_true rfl)⟩ rfl rfl (Nat.le_of_ble_eq_true rfl) (Nat.le_of_ble_eq_true rfl) (fun r9 J_37 hq9 => ?_)
      obtain ⟨rfl, hj_37⟩ := hq9
      have a_37 : AM J_37 J m m := by rw [← hj_37]; exact AM.begin (hI.z y_28) ⟨MZ.lo y_28, SC.z y_28⟩
      have br_37 : ∀ k, (k < 63 ∨ 126 ≤ k) → J_37 165 k = (J_28 : zJ) 165 k := fun k hk => by rw [← hj_37]; exact zbg_r hk
      have bl_37 : ∀ k, ¬ k = 34 → ¬ k = 33 → ¬ k = 21 → J_37 164 k = (J_28 : zJ) 164 k := fun k u v w => by rw [← hj_37]; exact zbg_f u v w
      have bo_37 : zOf (zbut [164, 165]) J_37 J_28 := by rw [← hj_37]; exact zbg_of
      have b3_37 : J_37 164 21 = 0 ∧ J_37 164 33 = 0 ∧ J_37 164 34 = 0 := by rw [← hj_37]; exact ⟨rfl, rfl, rfl⟩
      have s9_37 : J_37 164 9 = J 164 9 := (bl_37 9 (by decide) (by decide) (by decide)).trans (y_28.2 9 (by decide) (by decide))
      obtain ⟨⟨bt_37, bs_37, bm_37, ba_37⟩, bu_37, bn_37, bf_37, bi_37⟩ := mbeg hI y_28 hj_37 u9
      refine tz_aload_n (pc := 40) dX12_years_40 rfl rfl ?_
      refine tz_iload_n (pc := 41) dX12_years_41 rfl rfl ?_
      refine tz_pI (pc := 42) (kz := 46) dX12_years_42 fl_X12_423 i_164_46 rfl rfl (by omega) ?_
      refine tz_iconst (pc := 45) dX12_years_45 ?_
      refine tz_istore (pc := 46) (L2 := [_, _, _, _, _, _, _, _, _]) dX12_years_46 (by decide) rfl ?_
      refine tz_iconst (pc := 48) dX12_years_48 ?_
      refine tz_istore (pc := 49) (L2 := [_, _, _, _, _, _, _, _, _]) dX12_years_49 (by decide) rfl ?_
      refine tz_iconst (pc := 51) dX12_years_51 ?_
      refine tz_istore (pc := 52) (L2 := [_, _, _, _, _, _, _, _, _]) dX12_years_52 (by decide) rfl ?_
      have loop54 : ∀ (f9 : Nat) (q : Int) (e : Int) (k : Int) (d7 : Option Value) (d8 : Option Value) (J1 : zJ) (m1 : Int), ((20 - k).toNat) < f9 → (-2147483648 ≤ q ∧ q < 2147483648) → (e = 0 ∨ e = 1) → (0 ≤ k ∧ k ≤ 20) → (AM J1 J m m1) → (e = 1 → J1 164 21 = 0 ∧ 0 ≤ J1 164 34 ∧ J1 164 34 ≤ 100) → (MOP J1 J_37 m) → tz_At l G M_X12_years (tb_rm 731 0 0) none (tb_ZM G 0 0 (zQ n 0 (zqi (fun z J' => MQr J' J ∧ MFI J' J ∧ (MBT J' (tbz J) ∧ MUr J' pn RR)))) (zX n 0 zN)) 0 0 n J1 54 [some (.ref 164), some (zi x), some (zi y), some (zi v), some (zi q), some (zi e), some (zi k), d7, d8] [] := by
        intro f9
        induction f9 with
        | zero => intro q e k d7 d8 J1 m1 hm9; exact absurd hm9 (Nat.not_lt_zero _)
        | succ f9 ih54 =>
          intro q e k d7 d8 J1 m1 hm54 hq he hk aj hs po
          refine tz_iload (pc := 54) dX12_years_54 rfl ?_
          refine tz_iload_n (pc := 56) dX12_years_56 rfl rfl ?_
          refine tz_icmp_ge (pc := 57) (tgt := 134) dX12_years_57 (by decide) (by omega) (by omega) (fun h_57 => ?_) (fun h_57 => ?_)
          · refine tz_iload_n (pc := 134) dX12_years_134 rfl rfl ?_
            refine tz_if_ne (pc := 135) (tgt := 143) dX12_years_135 (by decide) (by omega) (fun h_135 => ?_) (fun h_135 => ?_)
            · refine tz_iload_n (pc := 143) dX12_years_143 rfl rfl ?_
              refine tz_iconst (pc := 144) dX12_years_144 ?_
              refine tz_icmp_ne (pc := 145) (tgt := 166) dX12_years_145 (by decide) (by omega) (by decide) (fun h_145 => ?_) (fun h_145 => ?_)
              · refine tz_aload_n (pc := 166) dX12_years_166 rfl rfl ?_
                refine tz_fR (pc := 167) dX12_years_167 fl_X12_9 r_164_0 ?_
                refine tz_bipush (pc := 170) dX12_years_170 (by decide) ?_
                refine tz_aL (pc := 172) (z := 62) (v := (J1 165 62)) dX12_years_172 a_165 rfl (by decide) rfl (fun r_172 => ?_)
                refine tz_aload_n (pc := 173) dX12_years_173 rfl rfl ?_
                refine tz_fR (pc := 174) dX12_years_174 fl_X12_9 r_164_0 ?_
                refine tz_bipush (pc := 177) dX12_years_177 (by decide) ?_
                refine tz_aL (pc := 179) (z := 125) (v := (J1 165 125)) dX12_years_179 a_165 rfl (by decide) rfl (fun r_179 => ?_)
                refine tz_isub (pc := 180) (v := (J1 165 62) - (J1 165 125)) dX12_years_180 rfl ?_
                refine tz_tw ?_
                have rw_181 := zw_rg ((J1 165 62) - (J1 165 125))
                refine tz_istore (pc := 181) (L2 := [_, _, _, _, _, _, _, _, _]) dX12_years_181 (by decide) rfl ?_
                refine tz_aload_n (pc := 183) dX12_years_183 rfl rfl ?_
                refine tz_bipush (pc := 184) dX12_years_184 (by decide) ?_
                refine tz_iconst (pc := 186) dX12_years_186 ?_
                refine tz_bipush (pc := 187) dX12_years_187 (by decide) ?_
                refine tz_cV (pc := 189) (zm_copies hl n _ _ _ _ (by decide) (by decide) (by decide) (by omega) (by omega)) vl_X12_343 dX12_years_189 o_164 rfl rfl (Nat.le_of_ble_eq_true rfl) ⟨(Nat.le_of_ble_eq_true rfl), (Nat.le_of_ble_eq_true rfl)⟩ rfl rfl (Nat.le_of_ble_eq_true rfl) (Nat.le_of_ble_eq_true rfl) (fun r9 J_189 hq9 => ?_)
                obtain ⟨rfl, rfl⟩ := hq9
                refine tz_iload (pc := 192) dX12_years_192 rfl ?_
                refine tz_if_eq (pc := 194) (tgt := 202) dX12_years_194 (by decide) (by omega) (fun h_194 => ?_) (fun h_194 => ?_)
                · refine tz_iconst (pc := 202) dX12_years_202 ?_
                  exact tz_iret (pc := 203) (z := (-1)) dX12_years_203 rfl (Nat.le_of_ble_eq_true rfl) (Nat.le_of_ble_eq_true rfl) ⟨Nat.le_refl _, Nat.le_add_right _ _⟩ ⟨_, rfl, (by decide), (by obtain ⟨w1, w2⟩ := mact_fail bt_37 bs_37 bm_37 ba_37 bu_37 bn_37 bf_37 po zOf.rf; exact ⟨AM.fail aj zOf.rf, bi_37.tr w2, w1⟩)⟩
                · refine tz_iload (pc := 197) dX12_years_197 rfl ?_
                  refine tz_goto (pc := 199) (tgt := 203) dX12_years_199 (by decide) ?_
                  exact tz_iret (pc := 203) (z := (zw ((J1 165 62) - (J1 165 125)))) dX12_years_203 rfl (Nat.le_of_ble_eq_true rfl) (Nat.le_of_ble_eq_true rfl) ⟨Nat.le_refl _, Nat.le_add_right _ _⟩ ⟨_, rfl, (zw_rg _), (by obtain ⟨w1, w2⟩ := mact_fail bt_37 bs_37 bm_37 ba_37 bu_37 bn_37 bf_37 po zOf.rf; exact ⟨AM.fail aj zOf.rf, bi_37.tr w2, w1⟩)⟩
              · refine tz_aload_n (pc := 148) dX12_years_148 rfl rfl ?_
                refine tz_fR (pc := 149) dX12_years_149 fl_X12_9 r_164_0 ?_
                refine tz_bipush (pc := 152) dX12_years_152 (by decide) ?_
                refine tz_aL (pc := 154) (z := 61) (v := (J1 165 61)) dX12_years_154 a_165 rfl (by decide) rfl (fun r_154 => ?_)
                refine tz_aload_n (pc := 155) dX12_years_155 rfl rfl ?_
                refine tz_fR (pc := 156) dX12_years_156 fl_X12_9 r_164_0 ?_
                refine tz_bipush (pc := 159) dX12_years_159 (by decide) ?_
                refine tz_aL (pc := 161) (z := 124) (v := (J1 165 124)) dX12_years_161 a_165 rfl (by decide) rfl (fun r_161 => ?_)
                refine tz_isub (pc := 162) (v := (J1 165 61) - (J1 165 124)) dX12_years_162 rfl ?_
                refine tz_goto (pc := 163) (tgt := 181) dX12_years_163 (by decide) ?_
                refine tz_tw ?_
                have rw_181 := zw_rg ((J1 165 61) - (J1 165 124))
                refine tz_istore (pc := 181) (L2 := [_, _, _, _, _, _, _, _, _]) dX12_years_181 (by decide) rfl ?_
                refine tz_aload_n (pc := 183) dX12_years_183 rfl rfl ?_
                refine tz_bipush (pc := 184) dX12_years_184 (by decide) ?_
                refine tz_iconst (pc := 186) dX12_years_186 ?_
                refine tz_bipush (pc := 187) dX12_years_187 (by decide) ?_
                refine tz_cV (pc := 189) (zm_copies hl n _ _ _ _ (by decide) (by decide) (by decide) (by omega) (by omega)) vl_X12_343 dX12_years_189 o_164 rfl rfl (Nat.le_of_ble_eq_true rfl) ⟨(Nat.le_of_ble_eq_true rfl), (Nat.le_of_ble_eq_true rfl)⟩ rfl rfl (Nat.le_of_ble_eq_true rfl) (Nat.le_of_ble_eq_true rfl) (fun r9 J_189 hq9 => ?_)
                obtain ⟨rfl, rfl⟩ := hq9
                refine tz_iload (pc := 192) dX12_years_192 rfl ?_
                refine tz_if_eq (pc := 194) (tgt := 202) dX12_years_194 (by decide) (by omega) (fun h_194 => ?_) (fun h_194 => ?_)
                · refine tz_iconst (pc := 202) dX12_years_202 ?_
                  exact tz_iret (pc := 203) (z := (-1)) dX12_years_203 rfl (Nat.le_of_ble_eq_true rfl) (Nat.le_of_ble_eq_true rfl) ⟨Nat.le_refl _, Nat.le_add_right _ _⟩ ⟨_, rfl, (by decide), (by obtain ⟨w1, w2⟩ := mact_fail bt_37 bs_37 bm_37 ba_37 bu_37 bn_37 bf_37 po zOf.rf; exact ⟨AM.fail aj zOf.rf, bi_37.tr w2, w1⟩)⟩
                · refine tz_iload (pc := 197) dX12_years_197 rfl ?_
                  refine tz_goto (pc := 199) (tgt := 203) dX12_years_199 (by decide) ?_
                  exact tz_iret (pc := 203) (z := (zw ((J1 165 61) - (J1 165 124)))) dX12_years_203 rfl (Nat.le_of_ble_eq_true rfl) (Nat.le_of_ble_eq_true rfl) ⟨Nat.le_refl _, Nat.le_add_right _ _⟩ ⟨_, rfl, (zw_rg _), (by obtain ⟨w1, w2⟩ := mact_fail bt_37 bs_37 bm_37 ba_37 bu_37 bn_37 bf_37 po zOf.rf; exact ⟨AM.fail aj zOf.rf, bi_37.tr w2, w1⟩)⟩
            · refine tz_iload (pc := 138) dX12_years_138 rfl ?_
              refine tz_goto (pc := 140) (tgt := 181) dX12_years_140 (by decide) ?_
              refine tz_tw ?_
              have rw_181 := zw_rg q
              refine tz_istore (pc := 181) (L2 := [_, _, _, _, _, _, _, _, _]) dX12_years_181 (by decide) rfl ?_
              refine tz_aload_n (pc := 183) dX12_years_183 rfl rfl ?_
              refine tz_bipush (pc := 184) dX12_years_184 (by decide) ?_
              refine tz_iconst (pc := 186) dX12_years_186 ?_
              refine tz_bipush (pc := 187) dX12_years_187 (by decide) ?_
              refine tz_cV (pc := 189) (zm_copies hl n _ _ _ _ (by decide) (by decide) (by decide) (by omega) (by omega)) vl_X12_343 dX12_years_189 o_164 rfl rfl (Nat.le_of_ble_eq_true rfl) ⟨(Nat.le_of_ble_eq_true rfl), (Nat.le_of_ble_eq_true rfl)⟩ rfl rfl (Nat.le_of_ble_eq_true rfl) (Nat.le_of_ble_eq_true rfl) (fun r9 J_189 hq9 => ?_)
              obtain ⟨rfl, rfl⟩ := hq9
              refine tz_iload (pc := 192) dX12_years_192 rfl ?_
              refine tz_if_eq (pc := 194) (tgt := 202) dX12_years_194 (by decide) (by omega) (fun h_194 => ?_) (fun h_194 => ?_)
              · refine tz_iconst (pc := 202) dX12_years_202 ?_
                exact tz_iret (pc := 203) (z := (-1)) dX12_years_203 rfl (Nat.le_of_ble_eq_true rfl) (Nat.le_of_ble_eq_true rfl) ⟨Nat.le_refl _, Nat.le_add_right _ _⟩ ⟨_, rfl, (by decide), (by obtain ⟨w1, w2⟩ := mact_fail bt_37 bs_37 bm_37 ba_37 bu_37 bn_37 bf_37 po zOf.rf; exact ⟨AM.fail aj zOf.rf, bi_37.tr w2, w1⟩)⟩
              · refine tz_iload (pc := 197) dX12_years_197 rfl ?_
                refine tz_goto (pc := 199) (tgt := 203) dX12_years_199 (by decide) ?_
                exact tz_iret (pc := 203) (z := (zw q)) dX12_years_203 rfl (Nat.le_of_ble_eq_true rfl) (Nat.le_of_ble_eq_true rfl) ⟨Nat.le_refl _, Nat.le_add_right _ _⟩ ⟨_, rfl, (zw_rg _), (by obtain ⟨w1, w2⟩ := mact_fail bt_37 bs_37 bm_37 ba_37 bu_37 bn_37 bf_37 po zOf.rf; exact ⟨AM.fail aj zOf.rf, bi_37.tr w2, w1⟩)⟩
          · refine tz_iload (pc := 60) dX12_years_60 rfl ?_
            refine tz_if_eq (pc := 62) (tgt := 134) dX12_years_62 (by decide) (by omega) (fun h_62 => ?_) (fun h_62 => ?_)
            · refine tz_iload_n (pc := 134) dX12_years_134 rfl rfl ?_
              refine tz_if_ne (pc := 135) (tgt := 143) dX12_years_135 (by decide) (by omega) (fun h_135 => ?_) (fun h_135 => ?_)
              · refine tz_iload_n (pc := 143) dX12_years_143 rfl rfl ?_
                refine tz_iconst (pc := 144) dX12_years_144 ?_
                refine tz_icmp_ne (pc := 145) (tgt := 166) dX12_years_145 (by decide) (by omega) (by decide) (fun h_145 => ?_) (fun h_145 => ?_)
                · refine tz_aload_n (pc := 166) dX12_years_166 rfl rfl ?_
                  refine tz_fR (pc := 167) dX12_years_167 fl_X12_9 r_164_0 ?_
                  refine tz_bipush (pc := 170) dX12_years_170 (by decide) ?_
                  refine tz_aL (pc := 172) (z := 62) (v := (J1 165 62)) dX12_years_172 a_165 rfl (by decide) rfl (fun r_172 => ?_)
                  refine tz_aload_n (pc := 173) dX12_years_173 rfl rfl ?_
                  refine tz_fR (pc := 174) dX12_years_174 fl_X12_9 r_164_0 ?_
                  refine tz_bipush (pc := 177) dX12_years_177 (by decide) ?_
                  refine tz_aL (pc := 179) (z := 125) (v := (J1 165 125)) dX12_years_179 a_165 rfl (by decide) rfl (fun r_179 => ?_)
                  refine tz_isub (pc := 180) (v := (J1 165 62) - (J1 165 125)) dX12_years_180 rfl ?_
                  refine tz_tw ?_
                  have rw_181 := zw_rg ((J1 165 62) - (J1 165 125))
                  refine tz_istore (pc := 181) (L2 := [_, _, _, _, _, _, _, _, _]) dX12_years_181 (by decide) rfl ?_
                  refine tz_aload_n (pc := 183) dX12_years_183 rfl rfl ?_
                  refine tz_bipush (pc := 184) dX12_years_184 (by decide) ?_
                  refine tz_iconst (pc := 186) dX12_years_186 ?_
                  refine tz_bipush (pc := 187) dX12_years_187 (by decide) ?_
                  refine tz_cV (pc := 189) (zm_copies hl n _ _ _ _ (by decide) (by decide) (by decide) (by omega) (by omega)) vl_X12_343 dX12_years_189 o_164 rfl rfl (Nat.le_of_ble_eq_true rfl) ⟨(Nat.le_of_ble_eq_true rfl), (Nat.le_of_ble_eq_true rfl)⟩ rfl rfl (Nat.le_of_ble_eq_true rfl) (Nat.le_of_ble_eq_true rfl) (fun r9 J_189 hq9 => ?_)
                  obtain ⟨rfl, rfl⟩ := hq9
                  refine tz_iload (pc := 192) dX12_years_192 rfl ?_
                  refine tz_if_eq (pc := 194) (tgt := 202) dX12_years_194 (by decide) (by omega) (fun h_194 => ?_) (fun h_194 => ?_)
                  · refine tz_iconst (pc := 202) dX12_years_202 ?_
                    exact tz_iret (pc := 203) (z := (-1)) dX12_years_203 rfl (Nat.le_of_ble_eq_true rfl) (Nat.le_of_ble_eq_true rfl) ⟨Nat.le_refl _, Nat.le_add_right _ _⟩ ⟨_, rfl, (by decide), (by obtain ⟨w1, w2⟩ := mact_fail bt_37 bs_37 bm_37 ba_37 bu_37 bn_37 bf_37 po zOf.rf; exact ⟨AM.fail aj zOf.rf, bi_37.tr w2, w1⟩)⟩
                  · refine tz_iload (pc := 197) dX12_years_197 rfl ?_
                    refine tz_goto (pc := 199) (tgt := 203) dX12_years_199 (by decide) ?_
                    exact tz_iret (pc := 203) (z := (zw ((J1 165 62) - (J1 165 125)))) dX12_years_203 rfl (Nat.le_of_ble_eq_true rfl) (Nat.le_of_ble_eq_true rfl) ⟨Nat.le_refl _, Nat.le_add_right _ _⟩ ⟨_, rfl, (zw_rg _), (by obtain ⟨w1, w2⟩ := mact_fail bt_37 bs_37 bm_37 ba_37 bu_37 bn_37 bf_37 po zOf.rf; exact ⟨AM.fail aj zOf.rf, bi_37.tr w2, w1⟩)⟩
                · refine tz_aload_n (pc := 148) dX12_years_148 rfl rfl ?_
                  refine tz_fR (pc := 149) dX12_years_149 fl_X12_9 r_164_0 ?_
                  refine tz_bipush (pc := 152) dX12_years_152 (by decide) ?_
                  refine tz_aL (pc := 154) (z := 61) (v := (J1 165 61)) dX12_years_154 a_165 rfl (by decide) rfl (fun r_154 => ?_)
                  refine tz_aload_n (pc := 155) dX12_years_155 rfl rfl ?_
                  refine tz_fR (pc := 156) dX12_years_156 fl_X12_9 r_164_0 ?_
                  refine tz_bipush (pc := 159) dX12_years_159 (by decide) ?_
                  refine tz_aL (pc := 161) (z := 124) (v := (J1 165 124)) dX12_years_161 a_165 rfl (by decide) rfl (fun r_161 => ?_)
                  refine tz_isub (pc := 162) (v := (J1 165 61) - (J1 165 124)) dX12_years_162 rfl ?_
                  refine tz_goto (pc := 163) (tgt := 181) dX12_years_163 (by decide) ?_
                  refine tz_tw ?_
                  have rw_181 := zw_rg ((J1 165 61) - (J1 165 124))
                  refine tz_istore (pc := 181) (L2 := [_, _, _, _, _, _, _, _, _]) dX12_years_181 (by decide) rfl ?_
                  refine tz_aload_n (pc := 183) dX12_years_183 rfl rfl ?_
                  refine tz_bipush (pc := 184) dX12_years_184 (by decide) ?_
                  refine tz_iconst (pc := 186) dX12_years_186 ?_
                  refine tz_bipush (pc := 187) dX12_years_187 (by decide) ?_
                  refine tz_cV (pc := 189) (zm_copies hl n _ _ _ _ (by decide) (by decide) (by decide) (by omega) (by omega)) vl_X12_343 dX12_years_189 o_164 rfl rfl (Nat.le_of_ble_eq_true rfl) ⟨(Nat.le_of_ble_eq_true rfl), (Nat.le_of_ble_eq_true rfl)⟩ rfl rfl (Nat.le_of_ble_eq_true rfl) (Nat.le_of_ble_eq_true rfl) (fun r9 J_189 hq9 => ?_)
                  obtain ⟨rfl, rfl⟩ := hq9
                  refine tz_iload (pc := 192) dX12_years_192 rfl ?_
                  refine tz_if_eq (pc := 194) (tgt := 202) dX12_years_194 (by decide) (by omega) (fun h_194 => ?_) (fun h_194 => ?_)
                  · refine tz_iconst (pc := 202) dX12_years_202 ?_
                    exact tz_iret (pc := 203) (z := (-1)) dX12_years_203 rfl (Nat.le_of_ble_eq_true rfl) (Nat.le_of_ble_eq_true rfl) ⟨Nat.le_refl _, Nat.le_add_right _ _⟩ ⟨_, rfl, (by decide), (by obtain ⟨w1, w2⟩ := mact_fail bt_37 bs_37 bm_37 ba_37 bu_37 bn_37 bf_37 po zOf.rf; exact ⟨AM.fail aj zOf.rf, bi_37.tr w2, w1⟩)⟩
                  · refine tz_iload (pc := 197) dX12_years_197 rfl ?_
                    refine tz_goto (pc := 199) (tgt := 203) dX12_years_199 (by decide) ?_
                    exact tz_iret (pc := 203) (z := (zw ((J1 165 61) - (J1 165 124)))) dX12_years_203 rfl (Nat.le_of_ble_eq_true rfl) (Nat.le_of_ble_eq_true rfl) ⟨Nat.le_refl _, Nat.le_add_right _ _⟩ ⟨_, rfl, (zw_rg _), (by obtain ⟨w1, w2⟩ := mact_fail bt_37 bs_37 bm_37 ba_37 bu_37 bn_37 bf_37 po zOf.rf; exact ⟨AM.fail aj zOf.rf, bi_37.tr w2, w1⟩)⟩
              · refine tz_iload (pc := 138) dX12_years_138 rfl ?_
                refine tz_goto (pc := 140) (tgt := 181) dX12_years_140 (by decide) ?_
                refine tz_tw ?_
                have rw_181 := zw_rg q
                refine tz_istore (pc := 181) (L2 := [_, _, _, _, _, _, _, _, _]) dX12_years_181 (by decide) rfl ?_
                refine tz_aload_n (pc := 183) dX12_years_183 rfl rfl ?_
                refine tz_bipush (pc := 184) dX12_years_184 (by decide) ?_
                refine tz_iconst (pc := 186) dX12_years_186 ?_
                refine tz_bipush (pc := 187) dX12_years_187 (by decide) ?_
                refine tz_cV (pc := 189) (zm_copies hl n _ _ _ _ (by decide) (by decide) (by decide) (by omega) (by omega)) vl_X12_343 dX12_years_189 o_164 rfl rfl (Nat.le_of_ble_eq_true rfl) ⟨(Nat.le_of_ble_eq_true rfl), (Nat.le_of_ble_eq_true rfl)⟩ rfl rfl (Nat.le_of_ble_eq_true rfl) (Nat.le_of_ble_eq_true rfl) (fun r9 J_189 hq9 => ?_)
                obtain ⟨rfl, rfl⟩ := hq9
                refine tz_iload (pc := 192) dX12_years_192 rfl ?_
                refine tz_if_eq (pc := 194) (tgt := 202) dX12_years_194 (by decide) (by omega) (fun h_194 => ?_) (fun h_194 => ?_)
                · refine tz_iconst (pc := 202) dX12_years_202 ?_
                  exact tz_iret (pc := 203) (z := (-1)) dX12_years_203 rfl (Nat.le_of_ble_eq_true rfl) (Nat.le_of_ble_eq_true rfl) ⟨Nat.le_refl _, Nat.le_add_right _ _⟩ ⟨_, rfl, (by decide), (by obtain ⟨w1, w2⟩ := mact_fail bt_37 bs_37 bm_37 ba_37 bu_37 bn_37 bf_37 po zOf.rf; exact ⟨AM.fail aj zOf.rf, bi_37.tr w2, w1⟩)⟩
                · refine tz_iload (pc := 197) dX12_years_197 rfl ?_
                  refine tz_goto (pc := 199) (tgt := 203) dX12_years_199 (by decide) ?_
                  exact tz_iret (pc := 203) (z := (zw q)) dX12_years_203 rfl (Nat.le_of_ble_eq_true rfl) (Nat.le_of_ble_eq_true rfl) ⟨Nat.le_refl _, Nat.le_add_right _ _⟩ ⟨_, rfl, (zw_rg _), (by obtain ⟨w1, w2⟩ := mact_fail bt_37 bs_37 bm_37 ba_37 bu_37 bn_37 bf_37 po zOf.rf; exact ⟨AM.fail aj zOf.rf, bi_37.tr w2, w1⟩)⟩
            · refine tz_aload_n (pc := 65) dX12_years_65 rfl rfl ?_
              refine tz_iconst (pc := 66) dX12_years_66 ?_
              refine tz_cV (pc := 67) (m_drawn hl n _ _ (by decide) (J1 164 9) m1 aj.1.1 rfl (by decide)) vl_X12_430 dX12_years_67 o_164 rfl rfl (Nat.le_of_ble_eq_true rfl) ⟨(Nat.le_of_ble_eq_true rfl), (Nat.le_of_ble_eq_true rfl)⟩ rfl rfl (Nat.le_of_ble_eq_true rfl) (Nat.le_of_ble_eq_true rfl) (fun r9 J_67 hq9 => ?_)
              obtain ⟨z_67, rfl, hz_67, m_67, g_67, h_67⟩ := hq9
              have a_67 := AM.grow0 aj g_67 (fun c hc => by simp at hc) (fun k x y => by simp; omega) rfl
              have f4_67 : J_67 164 34 = J1 164 34 := g_67.2.2.1.2.2.1 34 (by decide)
              have tt_67 := a_67.1.1.told
              have po_67 := po.tr (MOP.mgd g_67) aj.1.2.2
              refine tz_istore (pc := 70) (L2 := [_, _, _, _, _, _, _, _, _]) dX12_years_70 (by decide) rfl ?_
              refine tz_aload_n (pc := 72) dX12_years_72 rfl rfl ?_
              refine tz_fI (pc := 73) (kz := 21) (v := (J_67 164 21)) dX12_years_73 fl_X12_92 i_164_21 rfl rfl (fun r_73 => ?_)
              refine tz_if_eq (pc := 76) (tgt := 83) dX12_years_76 (by decide) (by omega) (fun h_76 => ?_) (fun h_76 => ?_)
              · refine tz_aload_n (pc := 83) dX12_years_83 rfl rfl ?_
                refine tz_iload (pc := 84) dX12_years_84 rfl ?_
                refine tz_cV (pc := 86) (m_normal hl n _ _ (by omega) 0 0 0 (J_67 164 9) m_67 (AM.nz a_67 (by omega) (by omega)) (by omega)) vl_X12_221 dX12_years_86 o_164 rfl rfl (Nat.le_of_ble_eq_true rfl) ⟨(Nat.le_of_ble_eq_true rfl), (Nat.le_of_ble_eq_true rfl)⟩ rfl rfl (Nat.le_of_ble_eq_true rfl) (Nat.le_of_ble_eq_true rfl) (fun r9 J_86 hq9 => ?_)
                obtain ⟨z_86, rfl, hz_86, m_86, g_86, h_86⟩ := hq9
                have a_86 := AM.norm a_67 g_86 rfl
                have lm_86 := g_86.2.1.1.2
                have st_86 := g_86.1.2.2.2
                have po_86 := po_67.tr (MOP.np g_86) a_67.1.2.2
                refine tz_istore (pc := 89) (L2 := [_, _, _, _, _, _, _, _, _]) dX12_years_89 (by decide) rfl ?_
                refine tz_aload_n (pc := 91) dX12_years_91 rfl rfl ?_
                refine tz_cV (pc := 92) (m_stopped hl n _) vl_X12_211 dX12_years_92 o_164 rfl rfl (Nat.le_of_ble_eq_true rfl) ⟨(Nat.le_of_ble_eq_true rfl), (Nat.le_of_ble_eq_true rfl)⟩ rfl rfl (Nat.le_of_ble_eq_true rfl) (Nat.le_of_ble_eq_true rfl) (fun r9 J_92 hq9 => ?_)
                obtain ⟨z_92, rfl, hz_92, rfl, hs_92⟩ := hq9
                refine tz_if_ne (pc := 95) (tgt := 102) dX12_years_95 (by decide) (by omega) (fun h_95 => ?_) (fun h_95 => ?_)
                · refine tz_iconst (pc := 102) dX12_years_102 ?_
                  refine tz_istore (pc := 103) (L2 := [_, _, _, _, _, _, _, _, _]) dX12_years_103 (by decide) rfl ?_
                  refine tz_iload (pc := 105) dX12_years_105 rfl ?_
                  refine tz_if_eqT (pc := 107) (tgt := 128) (by decide) dX12_years_107 (by decide) (by decide) ?_
                  refine tz_iinc (pc := 128) (z := k + 1) (L2 := [_, _, _, _, _, _, _, _, _]) dX12_years_128 rfl (by omega) rfl ?_
                  refine tz_goto (pc := 131) (tgt := 54) dX12_years_131 (by decide) ?_
                  exact ih54 _ _ (k + 1) _ _ _ _ (by omega) (by omega) (by omega) (by omega) a_86 (fun q9 => by omega) po_86
                · refine tz_iconst (pc := 98) dX12_years_98 ?_
                  refine tz_goto (pc := 99) (tgt := 103) dX12_years_99 (by decide) ?_
                  refine tz_istore (pc := 103) (L2 := [_, _, _, _, _, _, _, _, _]) dX12_years_103 (by decide) rfl ?_
                  refine tz_iload (pc := 105) dX12_years_105 rfl ?_
                  refine tz_if_eqF (pc := 107) (tgt := 128) (by decide) dX12_years_107 (by decide) (by decide) ?_
                  refine tz_iload (pc := 110) dX12_years_110 rfl ?_
                  refine tz_aload_n (pc := 112) dX12_years_112 rfl rfl ?_
                  refine tz_iload (pc := 113) dX12_years_113 rfl ?_
                  refine tz_cV (pc := 115) (m_weight hl n _ _ (by omega) 0 0 0 (J_86 164 9) m_86 a_86.1.1 (by omega)) vl_X12_120 dX12_years_115 o_164 rfl rfl (Nat.le_of_ble_eq_true rfl) ⟨(Nat.le_of_ble_eq_true rfl), (Nat.le_of_ble_eq_true rfl)⟩ rfl rfl (Nat.le_of_ble_eq_true rfl) (Nat.le_of_ble_eq_true rfl) (fun r9 J_115 hq9 => ?_)
                  obtain ⟨z_115, rfl, hz_115, rfl⟩ := hq9
                  refine tz_aload_n (pc := 118) dX12_years_118 rfl rfl ?_
                  refine tz_iload (pc := 119) dX12_years_119 rfl ?_
                  refine tz_cV (pc := 121) (m_weight hl n _ _ (by omega) 0 0 0 (J_86 164 9) m_86 a_86.1.1 (by omega)) vl_X12_120 dX12_years_121 o_164 rfl rfl (Nat.le_of_ble_eq_true rfl) ⟨(Nat.le_of_ble_eq_true rfl), (Nat.le_of_ble_eq_true rfl)⟩ rfl rfl (Nat.le_of_ble_eq_true rfl) (Nat.le_of_ble_eq_true rfl) (fun r9 J_121 hq9 => ?_)
                  obtain ⟨z_121, rfl, hz_121, rfl⟩ := hq9
                  refine tz_isub (pc := 124) (v := z_115 - z_121) dX12_years_124 rfl ?_
                  refine tz_tw ?_
                  have rw_125 := zw_rg (z_115 - z_121)
                  refine tz_iadd (pc := 125) (v := q + (zw (z_115 - z_121))) dX12_years_125 rfl ?_
                  refine tz_tw ?_
                  have rw_126 := zw_rg (q + (zw (z_115 - z_121)))
                  refine tz_istore (pc := 126) (L2 := [_, _, _, _, _, _, _, _, _]) dX12_years_126 (by decide) rfl ?_
                  refine tz_iinc (pc := 128) (z := k + 1) (L2 := [_, _, _, _, _, _, _, _, _]) dX12_years_128 rfl (by omega) rfl ?_
                  refine tz_goto (pc := 131) (tgt := 54) dX12_years_131 (by decide) ?_
                  exact ih54 _ _ (k + 1) _ _ _ _ (by omega) (by omega) (by omega) (by omega) a_86 (fun q9 => by omega) po_86
              · refine tz_iconst (pc := 79) dX12_years_79 ?_
                refine tz_goto (pc := 80) (tgt := 89) dX12_years_80 (by decide) ?_
                refine tz_istore (pc := 89) (L2 := [_, _, _, _, _, _, _, _, _]) dX12_years_89 (by decide) rfl ?_
                refine tz_aload_n (pc := 91) dX12_years_91 rfl rfl ?_
                refine tz_cV (pc := 92) (m_stopped hl n _) vl_X12_211 dX12_years_92 o_164 rfl rfl (Nat.le_of_ble_eq_true rfl) ⟨(Nat.le_of_ble_eq_true rfl), (Nat.le_of_ble_eq_true rfl)⟩ rfl rfl (Nat.le_of_ble_eq_true rfl) (Nat.le_of_ble_eq_true rfl) (fun r9 J_92 hq9 => ?_)
                obtain ⟨z_92, rfl, hz_92, rfl, hs_92⟩ := hq9
                refine tz_if_ne (pc := 95) (tgt := 102) dX12_years_95 (by decide) (by omega) (fun h_95 => ?_) (fun h_95 => ?_)
                · refine tz_iconst (pc := 102) dX12_years_102 ?_
                  refine tz_istore (pc := 103) (L2 := [_, _, _, _, _, _, _, _, _]) dX12_years_103 (by decide) rfl ?_
                  refine tz_iload (pc := 105) dX12_years_105 rfl ?_
                  refine tz_if_eqT (pc := 107) (tgt := 128) (by decide) dX12_years_107 (by decide) (by decide) ?_
                  refine tz_iinc (pc := 128) (z := k + 1) (L2 := [_, _, _, _, _, _, _, _, _]) dX12_years_128 rfl (by omega) rfl ?_
                  refine tz_goto (pc := 131) (tgt := 54) dX12_years_131 (by decide) ?_
                  exact ih54 _ _ (k + 1) _ _ _ _ (by omega) (by omega) (by omega) (by omega) a_67 (fun q9 => by omega) po_67
                · refine tz_iconst (pc := 98) dX12_years_98 ?_
                  refine tz_goto (pc := 99) (tgt := 103) dX12_years_99 (by decide) ?_
                  refine tz_istore (pc := 103) (L2 := [_, _, _, _, _, _, _, _, _]) dX12_years_103 (by decide) rfl ?_
                  refine tz_iload (pc := 105) dX12_years_105 rfl ?_
                  refine tz_if_eqF (pc := 107) (tgt := 128) (by decide) dX12_years_107 (by decide) (by decide) ?_
                  refine tz_iload (pc := 110) dX12_years_110 rfl ?_
                  refine tz_aload_n (pc := 112) dX12_years_112 rfl rfl ?_
                  refine tz_iload (pc := 113) dX12_years_113 rfl ?_
                  refine tz_cV (pc := 115) (m_weight hl n _ _ (by omega) 0 0 0 (J_67 164 9) m_67 a_67.1.1 (by omega)) vl_X12_120 dX12_years_115 o_164 rfl rfl (Nat.le_of_ble_eq_true rfl) ⟨(Nat.le_of_ble_eq_true rfl), (Nat.le_of_ble_eq_true rfl)⟩ rfl rfl (Nat.le_of_ble_eq_true rfl) (Nat.le_of_ble_eq_true rfl) (fun r9 J_115 hq9 => ?_)
                  obtain ⟨z_115, rfl, hz_115, rfl⟩ := hq9
                  refine tz_aload_n (pc := 118) dX12_years_118 rfl rfl ?_
                  refine tz_iload (pc := 119) dX12_years_119 rfl ?_
                  refine tz_cV (pc := 121) (m_weight hl n _ _ (by omega) 0 0 0 (J_67 164 9) m_67 a_67.1.1 (by omega)) vl_X12_120 dX12_years_121 o_164 rfl rfl (Nat.le_of_ble_eq_true rfl) ⟨(Nat.le_of_ble_eq_true rfl), (Nat.le_of_ble_eq_true rfl)⟩ rfl rfl (Nat.le_of_ble_eq_true rfl) (Nat.le_of_ble_eq_true rfl) (fun r9 J_121 hq9 => ?_)
                  obtain ⟨z_121, rfl, hz_121, rfl⟩ := hq9
                  refine tz_isub (pc := 124) (v := z_115 - z_121) dX12_years_124 rfl ?_
                  refine tz_tw ?_
                  have rw_125 := zw_rg (z_115 - z_121)
                  refine tz_iadd (pc := 125) (v := q + (zw (z_115 - z_121))) dX12_years_125 rfl ?_
                  refine tz_tw ?_
                  have rw_126 := zw_rg (q + (zw (z_115 - z_121)))
                  refine tz_istore (pc := 126) (L2 := [_, _, _, _, _, _, _, _, _]) dX12_years_126 (by decide) rfl ?_
                  refine tz_iinc (pc := 128) (z := k + 1) (L2 := [_, _, _, _, _, _, _, _, _]) dX12_years_128 rfl (by omega) rfl ?_
                  refine tz_goto (pc := 131) (tgt := 54) dX12_years_131 (by decide) ?_
                  exact ih54 _ _ (k + 1) _ _ _ _ (by omega) (by omega) (by omega) (by omega) a_67 (fun q9 => by omega) po_67
      exact loop54 _ 0 1 0 none none _ m (Nat.lt_succ_self _) (by omega) (by omega) (by omega) (AM.z a_37 (MZ.up (k := 46) MZ.rf (by decide)) (fun q => q)) (fun _ => ⟨b3_37.1, by show 0 ≤ J_37 164 34; omega, by show J_37 164 34 ≤ 100; omega⟩) MOP.i46
    · refine tz_iconst (pc := 34) dX12_years_34 ?_
      exact tz_iret (pc := 35) (z := 0) dX12_years_35 rfl (Nat.le_of_ble_eq_true rfl) (Nat.le_of_ble_eq_true rfl) ⟨Nat.le_refl _, Nat.le_add_right _ _⟩ ⟨_, rfl, (by decide), ⟨MQr.z hI y_28, MFI.z y_28, MBT.z hI y_28, u9.z y_28⟩⟩

