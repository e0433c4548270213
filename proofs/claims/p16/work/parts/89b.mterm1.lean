set_option maxHeartbeats 4000000 in
set_option maxRecDepth 100000 in
theorem m_tuN {l : Launch} {G : tb_G} (hl : l.stackTraces = false) (n : Nat) (J : zJ) (h : Int) (x : Int) (y : Int) (w : Int) (hr_h : -2147483648 ≤ h ∧ h < 2147483648) (hr_x : -2147483648 ≤ x ∧ x < 2147483648) (hr_y : -2147483648 ≤ y ∧ y < 2147483648) (hr_w : -2147483648 ≤ w ∧ w < 2147483648) (b r d s m : Int) (hM : MS J b r d s m) (hh : -8 ≤ h ∧ h < s) (hk : h < 0) (hu : J 164 21 = 0 ∨ 0 < m) (hg : (0 < (0 : Int) → 0 ≤ x ∧ x < m) ∧ (1 < (0 : Int) → 0 ≤ y ∧ y < m) ∧ (2 < (0 : Int) → 0 ≤ w ∧ w < m)) : tz_Ok l G M_X12_termOf 2 0 0 [.ref 164, zi h, zi x, zi y, zi w] n J (zqi (fun z J' => ∃ m', MG [] [] (fun _ => false) J' J b r d s m m' ∧ 0 ≤ z ∧ z < m')) zN := by
  refine tz_Ok.of hl (by decide +kernel) rfl (tb_c1 rfl) (Nat.le_of_ble_eq_true rfl) ?_
  show tz_At l G M_X12_termOf (tb_rm 2 0 0) none (tb_ZM G 0 0 (zQ n 0 (zqi (fun z J' => ∃ m', MG [] [] (fun _ => false) J' J b r d s m m' ∧ 0 ≤ z ∧ z < m'))) (zX n 0 zN)) 0 0 n J 0 [some (.ref 164), some (zi h), some (zi x), some (zi y), some (zi w), none, none, none] []
  obtain ⟨hM1, hM2, hM3, hM4, hM5, hM6⟩ := id hM
  have hT := hM.told
  refine tz_aload_n (pc := 0) dX12_termOf_0 rfl rfl ?_
  refine tz_fI (pc := 1) (kz := 21) (v := (J 164 21)) dX12_termOf_1 fl_X12_92 i_164_21 rfl rfl (fun r_1 => ?_)
  refine tz_if_eq (pc := 4) (tgt := 9) dX12_termOf_4 (by decide) (by omega) (fun h_4 => ?_) (fun h_4 => ?_)
  · refine tz_iload_n (pc := 9) dX12_termOf_9 rfl rfl ?_
    refine tz_if_geF (pc := 10) (tgt := 17) (by omega) dX12_termOf_10 (by decide) (by omega) ?_
    refine tz_iconst (pc := 13) dX12_termOf_13 ?_
    refine tz_goto (pc := 14) (tgt := 28) dX12_termOf_14 (by decide) ?_
    refine tz_istore (pc := 28) (L2 := [_, _, _, _, _, _, _, _]) dX12_termOf_28 (by decide) rfl ?_
    refine tz_iconst (pc := 30) dX12_termOf_30 ?_
    refine tz_istore (pc := 31) (L2 := [_, _, _, _, _, _, _, _]) dX12_termOf_31 (by decide) rfl ?_
    have loop33 : ∀ (f9 : Nat) (t : Int), ((m - t).toNat) < f9 → (0 ≤ t ∧ t ≤ m) → (∀ q, 0 ≤ q → q < t → ¬ (J 166 (b + q) = h ∧ (0 < (0 : Int) → J 167 (3 * (b + q) + 0) = x) ∧ (1 < (0 : Int) → J 167 (3 * (b + q) + 1) = y) ∧ (2 < (0 : Int) → J 167 (3 * (b + q) + 2) = w))) → tz_At l G M_X12_termOf (tb_rm 2 0 0) none (tb_ZM G 0 0 (zQ n 0 (zqi (fun z J' => ∃ m', MG [] [] (fun _ => false) J' J b r d s m m' ∧ 0 ≤ z ∧ z < m'))) (zX n 0 zN)) 0 0 n J 33 [some (.ref 164), some (zi h), some (zi x), some (zi y), some (zi w), some (zi 0), some (zi t), none] [] := by
      intro f9
      induction f9 with
      | zero => intro t hm9; exact absurd hm9 (Nat.not_lt_zero _)
      | succ f9 ih33 =>
        intro t hm33 hq hn
        refine tz_iload (pc := 33) dX12_termOf_33 rfl ?_
        refine tz_aload_n (pc := 35) dX12_termOf_35 rfl rfl ?_
        refine tz_cV (pc := 36) (m_many hl n _ b r d s m hM) vl_X12_96 dX12_termOf_36 o_164 rfl rfl (Nat.le_of_ble_eq_true rfl) ⟨(Nat.le_of_ble_eq_true rfl), (Nat.le_of_ble_eq_true rfl)⟩ rfl rfl (Nat.le_of_ble_eq_true rfl) (Nat.le_of_ble_eq_true rfl) (fun r9 J_36 hq9 => ?_)
        obtain ⟨z_36, rfl, hz_36, rfl, rfl⟩ := hq9
        refine tz_icmp_ge (pc := 39) (tgt := 67) dX12_termOf_39 (by decide) (by omega) (by omega) (fun h_39 => ?_) (fun h_39 => ?_)
        · refine tz_iconst (pc := 67) dX12_termOf_67 ?_
          refine tz_istore (pc := 68) (L2 := [_, _, _, _, _, _, _, _]) dX12_termOf_68 (by decide) rfl ?_
          refine tz_iload (pc := 70) dX12_termOf_70 rfl ?_
          refine tz_if_leT (pc := 72) (tgt := 95) (by decide) dX12_termOf_72 (by decide) (by decide) ?_
          refine tz_iload (pc := 95) dX12_termOf_95 rfl ?_
          refine tz_iconst (pc := 97) dX12_termOf_97 ?_
          refine tz_icmp_leT (pc := 98) (tgt := 121) (by decide) dX12_termOf_98 (by decide) (by decide) (by decide) ?_
          refine tz_iload (pc := 121) dX12_termOf_121 rfl ?_
          refine tz_iconst (pc := 123) dX12_termOf_123 ?_
          refine tz_icmp_leT (pc := 124) (tgt := 148) (by decide) dX12_termOf_124 (by decide) (by decide) (by decide) ?_
          refine tz_aload_n (pc := 148) dX12_termOf_148 rfl rfl ?_
          refine tz_iload (pc := 149) dX12_termOf_149 rfl ?_
          refine tz_bipush (pc := 151) dX12_termOf_151 (by decide) ?_
          refine tz_icmp_gtF (pc := 153) (tgt := 166) (by decide) dX12_termOf_153 (by decide) (by decide) (by decide) ?_
          refine tz_aload_n (pc := 156) dX12_termOf_156 rfl rfl ?_
          refine tz_cV (pc := 157) (m_many hl n _ b r d s m hM) vl_X12_96 dX12_termOf_157 o_164 rfl rfl (Nat.le_of_ble_eq_true rfl) ⟨(Nat.le_of_ble_eq_true rfl), (Nat.le_of_ble_eq_true rfl)⟩ rfl rfl (Nat.le_of_ble_eq_true rfl) (Nat.le_of_ble_eq_true rfl) (fun r9 J_157 hq9 => ?_)
          obtain ⟨z_157, rfl, hz_157, rfl, rfl⟩ := hq9
          refine tz_sipush (pc := 160) dX12_termOf_160 (by decide) ?_
          refine tz_icmp_ne (pc := 163) (tgt := 170) dX12_termOf_163 (by decide) (by omega) (by decide) (fun h_163 => ?_) (fun h_163 => ?_)
          · refine tz_iconst (pc := 170) dX12_termOf_170 ?_
            refine tz_pZ (pc := 171) (kz := 21) dX12_termOf_171 fl_X12_92 i_164_21 rfl rfl (Or.inl rfl) ?_
            refine tz_aload_n (pc := 174) dX12_termOf_174 rfl rfl ?_
            refine tz_fI (pc := 175) (kz := 21) (v := 0) dX12_termOf_175 fl_X12_92 i_164_21 rfl rfl (fun _ => ?_)
            refine tz_if_eqT (pc := 178) (tgt := 183) (by decide) dX12_termOf_178 (by decide) (by decide) ?_
            refine tz_aload_n (pc := 183) dX12_termOf_183 rfl rfl ?_
            refine tz_cV (pc := 184) (m_many hl n _ b r d s m (hM.of ⟨zup_ne (by decide), zup_ne (by decide), zup_ne (by decide)⟩ rfl rfl rfl rfl rfl)) vl_X12_96 dX12_termOf_184 o_164 rfl rfl (Nat.le_of_ble_eq_true rfl) ⟨(Nat.le_of_ble_eq_true rfl), (Nat.le_of_ble_eq_true rfl)⟩ rfl rfl (Nat.le_of_ble_eq_true rfl) (Nat.le_of_ble_eq_true rfl) (fun r9 J_184 hq9 => ?_)
            obtain ⟨z_184, rfl, hz_184, rfl, rfl⟩ := hq9
            refine tz_istore (pc := 187) (L2 := [_, _, _, _, _, _, _, _]) dX12_termOf_187 (by decide) rfl ?_
            refine tz_aload_n (pc := 189) dX12_termOf_189 rfl rfl ?_
            refine tz_fR (pc := 190) dX12_termOf_190 fl_X12_13 r_164_1 ?_
            refine tz_aload_n (pc := 193) dX12_termOf_193 rfl rfl ?_
            refine tz_fI (pc := 194) (kz := 15) (v := b) dX12_termOf_194 fl_X12_71 i_164_15 rfl hM2 (fun r_194 => ?_)
            refine tz_iload (pc := 197) dX12_termOf_197 rfl ?_
            refine tz_iadd (pc := 199) (v := b + m) dX12_termOf_199 rfl ?_
            refine tz_iload_n (pc := 200) dX12_termOf_200 rfl rfl ?_
            refine tz_aS (pc := 201) (z := (b + m)) dX12_termOf_201 a_166 rfl (by omega) (by omega) ?_
            refine tz_aload_n (pc := 202) dX12_termOf_202 rfl rfl ?_
            refine tz_fR (pc := 203) dX12_termOf_203 fl_X12_16 r_164_2 ?_
            refine tz_iconst (pc := 206) dX12_termOf_206 ?_
            refine tz_aload_n (pc := 207) dX12_termOf_207 rfl rfl ?_
            refine tz_fI (pc := 208) (kz := 15) (v := b) dX12_termOf_208 fl_X12_71 i_164_15 rfl hM2 (fun r_208 => ?_)
            refine tz_iload (pc := 211) dX12_termOf_211 rfl ?_
            refine tz_iadd (pc := 213) (v := b + m) dX12_termOf_213 rfl ?_
            refine tz_imul (pc := 214) (v := 3 * (b + m)) dX12_termOf_214 rfl ?_
            refine tz_iload (pc := 215) dX12_termOf_215 rfl ?_
            refine tz_if_leT (pc := 217) (tgt := 224) (by decide) dX12_termOf_217 (by decide) (by decide) ?_
            refine tz_iconst (pc := 224) dX12_termOf_224 ?_
            refine tz_aS (pc := 225) (z := (3 * (b + m))) dX12_termOf_225 a_167 rfl (by omega) (by decide) ?_
            refine tz_aload_n (pc := 226) dX12_termOf_226 rfl rfl ?_
            refine tz_fR (pc := 227) dX12_termOf_227 fl_X12_16 r_164_2 ?_
            refine tz_iconst (pc := 230) dX12_termOf_230 ?_
            refine tz_aload_n (pc := 231) dX12_termOf_231 rfl rfl ?_
            refine tz_fI (pc := 232) (kz := 15) (v := b) dX12_termOf_232 fl_X12_71 i_164_15 rfl hM2 (fun r_232 => ?_)
            refine tz_iload (pc := 235) dX12_termOf_235 rfl ?_
            refine tz_iadd (pc := 237) (v := b + m) dX12_termOf_237 rfl ?_
            refine tz_imul (pc := 238) (v := 3 * (b + m)) dX12_termOf_238 rfl ?_
            refine tz_iconst (pc := 239) dX12_termOf_239 ?_
            refine tz_iadd (pc := 240) (v := (3 * (b + m)) + 1) dX12_termOf_240 rfl ?_
            refine tz_iload (pc := 241) dX12_termOf_241 rfl ?_
            refine tz_iconst (pc := 243) dX12_termOf_243 ?_
            refine tz_icmp_leT (pc := 244) (tgt := 251) (by decide) dX12_termOf_244 (by decide) (by decide) (by decide) ?_
            refine tz_iconst (pc := 251) dX12_termOf_251 ?_
            refine tz_aS (pc := 252) (z := ((3 * (b + m)) + 1)) dX12_termOf_252 a_167 rfl (by omega) (by decide) ?_
            refine tz_aload_n (pc := 253) dX12_termOf_253 rfl rfl ?_
            refine tz_fR (pc := 254) dX12_termOf_254 fl_X12_16 r_164_2 ?_
            refine tz_iconst (pc := 257) dX12_termOf_257 ?_
            refine tz_aload_n (pc := 258) dX12_termOf_258 rfl rfl ?_
            refine tz_fI (pc := 259) (kz := 15) (v := b) dX12_termOf_259 fl_X12_71 i_164_15 rfl hM2 (fun r_259 => ?_)
            refine tz_iload (pc := 262) dX12_termOf_262 rfl ?_
            refine tz_iadd (pc := 264) (v := b + m) dX12_termOf_264 rfl ?_
            refine tz_imul (pc := 265) (v := 3 * (b + m)) dX12_termOf_265 rfl ?_
            refine tz_iconst (pc := 266) dX12_termOf_266 ?_
            refine tz_iadd (pc := 267) (v := (3 * (b + m)) + 2) dX12_termOf_267 rfl ?_
            refine tz_iload (pc := 268) dX12_termOf_268 rfl ?_
            refine tz_iconst (pc := 270) dX12_termOf_270 ?_
            refine tz_icmp_leT (pc := 271) (tgt := 279) (by decide) dX12_termOf_271 (by decide) (by decide) (by decide) ?_
            refine tz_iconst (pc := 279) dX12_termOf_279 ?_
            refine tz_aS (pc := 280) (z := ((3 * (b + m)) + 2)) dX12_termOf_280 a_167 rfl (by omega) (by decide) ?_
            refine tz_aload_n (pc := 281) dX12_termOf_281 rfl rfl ?_
            refine tz_fR (pc := 282) dX12_termOf_282 fl_X12_19 r_164_3 ?_
            refine tz_aload_n (pc := 285) dX12_termOf_285 rfl rfl ?_
            refine tz_fI (pc := 286) (kz := 15) (v := b) dX12_termOf_286 fl_X12_71 i_164_15 rfl hM2 (fun r_286 => ?_)
            refine tz_iload (pc := 289) dX12_termOf_289 rfl ?_
            refine tz_iadd (pc := 291) (v := b + m) dX12_termOf_291 rfl ?_
            refine tz_iload (pc := 292) dX12_termOf_292 rfl ?_
            refine tz_aS (pc := 294) (z := (b + m)) dX12_termOf_294 a_168 rfl (by omega) (by decide) ?_
            refine tz_aload_n (pc := 295) dX12_termOf_295 rfl rfl ?_
            refine tz_fR (pc := 296) dX12_termOf_296 fl_X12_9 r_164_0 ?_
            refine tz_aload_n (pc := 299) dX12_termOf_299 rfl rfl ?_
            refine tz_fI (pc := 300) (kz := 16) (v := r) dX12_termOf_300 fl_X12_85 i_164_16 rfl hM3 (fun r_300 => ?_)
            refine tz_iconst (pc := 303) dX12_termOf_303 ?_
            refine tz_iadd (pc := 304) (v := r) dX12_termOf_304 (Int.add_zero _) ?_
            refine tz_dup2 (pc := 305) dX12_termOf_305 rfl rfl ?_
            refine tz_aL (pc := 306) (z := r) (v := m) dX12_termOf_306 a_165 rfl (by omega) hM5 (fun r_306 => ?_)
            refine tz_iconst (pc := 307) dX12_termOf_307 ?_
            refine tz_iadd (pc := 308) (v := m + 1) dX12_termOf_308 rfl ?_
            refine tz_aS (pc := 309) (z := r) dX12_termOf_309 a_165 rfl (by omega) (by omega) ?_
            refine tz_iload (pc := 310) dX12_termOf_310 rfl ?_
            exact tz_iret (pc := 312) (z := m) dX12_termOf_312 rfl (Nat.le_of_ble_eq_true rfl) (Nat.le_of_ble_eq_true rfl) ⟨Nat.le_refl _, Nat.le_add_right _ _⟩ ⟨_, rfl, (by omega), ⟨m + 1, hM.push (A := 0) (x := x) (y := y) (w := w) (by omega) hh (by unfold arh; rw [if_pos hk]) (by decide) (fun g => absurd g (by decide)) (fun g => absurd g (by decide)) (fun g => absurd g (by decide)) (fun q a c => hn q a (by omega)) (by omega) (by omega) h_4, by omega⟩⟩
          · refine tz_iconst (pc := 166) dX12_termOf_166 ?_
            refine tz_goto (pc := 167) (tgt := 171) dX12_termOf_167 (by decide) ?_
            refine tz_pZ (pc := 171) (kz := 21) dX12_termOf_171 fl_X12_92 i_164_21 rfl rfl (Or.inr rfl) ?_
            refine tz_aload_n (pc := 174) dX12_termOf_174 rfl rfl ?_
            refine tz_fI (pc := 175) (kz := 21) (v := 1) dX12_termOf_175 fl_X12_92 i_164_21 rfl rfl (fun _ => ?_)
            refine tz_if_eqF (pc := 178) (tgt := 183) (by decide) dX12_termOf_178 (by decide) (by decide) ?_
            refine tz_iconst (pc := 181) dX12_termOf_181 ?_
            exact tz_iret (pc := 182) (z := 0) dX12_termOf_182 rfl (Nat.le_of_ble_eq_true rfl) (Nat.le_of_ble_eq_true rfl) ⟨Nat.le_refl _, Nat.le_add_right _ _⟩ ⟨_, rfl, (by decide), ⟨m, (MG.rf hM).full (fun q => absurd q (by decide)), by omega⟩⟩
        · refine tz_aload_n (pc := 42) dX12_termOf_42 rfl rfl ?_
          refine tz_iload (pc := 43) dX12_termOf_43 rfl ?_
          refine tz_iload_n (pc := 45) dX12_termOf_45 rfl rfl ?_
          refine tz_iload (pc := 46) dX12_termOf_46 rfl ?_
          refine tz_iload_n (pc := 48) dX12_termOf_48 rfl rfl ?_
          refine tz_iload_n (pc := 49) dX12_termOf_49 rfl rfl ?_
          refine tz_iload (pc := 50) dX12_termOf_50 rfl ?_
          refine tz_cV (pc := 52) (m_isThat hl n _ _ _ _ _ _ _ (by omega) (by omega) (by decide) (by omega) (by omega) (by omega) b r d s m hM (by omega)) vl_X12_100 dX12_termOf_52 o_164 rfl rfl (Nat.le_of_ble_eq_true rfl) ⟨(Nat.le_of_ble_eq_true rfl), (Nat.le_of_ble_eq_true rfl)⟩ rfl rfl (Nat.le_of_ble_eq_true rfl) (Nat.le_of_ble_eq_true rfl) (fun r9 J_52 hq9 => ?_)
          obtain ⟨zi9, rfl, hz_52, rfl, hi1, hi2⟩ := hq9
          refine tz_if_eq (pc := 55) (tgt := 61) dX12_termOf_55 (by decide) (by omega) (fun h_55 => ?_) (fun h_55 => ?_)
          · refine tz_iinc (pc := 61) (z := t + 1) (L2 := [_, _, _, _, _, _, _, _]) dX12_termOf_61 rfl (by omega) rfl ?_
            refine tz_goto (pc := 64) (tgt := 33) dX12_termOf_64 (by decide) ?_
            exact ih33 (t + 1) (by omega) (by omega) (fun q a c => (Decidable.em (q = t)).elim (fun e => by rw [e]; exact fun e9 => by have := hi2.mpr e9; omega) (fun e => hn q a (by omega)))
          · refine tz_iload (pc := 58) dX12_termOf_58 rfl ?_
            exact tz_iret (pc := 60) (z := t) dX12_termOf_60 rfl (Nat.le_of_ble_eq_true rfl) (Nat.le_of_ble_eq_true rfl) ⟨Nat.le_refl _, Nat.le_add_right _ _⟩ ⟨_, rfl, (by omega), ⟨m, MG.rf hM, by omega⟩⟩
    exact loop33 _ 0 (Nat.lt_succ_self _) (by omega) (fun q a c => by omega)
  · refine tz_iconst (pc := 7) dX12_termOf_7 ?_
    exact tz_iret (pc := 8) (z := 0) dX12_termOf_8 rfl (Nat.le_of_ble_eq_true rfl) (Nat.le_of_ble_eq_true rfl) ⟨Nat.le_refl _, Nat.le_add_right _ _⟩ ⟨_, rfl, (by decide), ⟨m, MG.rf hM, by omega⟩⟩

set_option maxHeartbeats 4000000 in
set_option maxRecDepth 100000 in
theorem m_tu0 {l : Launch} {G : tb_G} (hl : l.stackTraces = false) (n : Nat) (J : zJ) (h : Int) (x : Int) (y : Int) (w : Int) (hr_h : -2147483648 ≤ h ∧ h < 2147483648) (hr_x : -2147483648 ≤ x ∧ x < 2147483648) (hr_y : -2147483648 ≤ y ∧ y < 2147483648) (hr_w : -2147483648 ≤ w ∧ w < 2147483648) (b r d s m : Int) (hM : MS J b r d s m) (hh : -8 ≤ h ∧ h < s) (hk : 0 ≤ h ∧ J 170 (d + h) = 0) (hu : J 164 21 = 0 ∨ 0 < m) (hg : (0 < (0 : Int) → 0 ≤ x ∧ x < m) ∧ (1 < (0 : Int) → 0 ≤ y ∧ y < m) ∧ (2 < (0 : Int) → 0 ≤ w ∧ w < m)) : tz_Ok l G M_X12_termOf 2 0 0 [.ref 164, zi h, zi x, zi y, zi w] n J (zqi (fun z J' => ∃ m', MG [] [] (fun _ => false) J' J b r d s m m' ∧ 0 ≤ z ∧ z < m')) zN := by
  refine tz_Ok.of hl (by decide +kernel) rfl (tb_c1 rfl) (Nat.le_of_ble_eq_true rfl) ?_
  show tz_At l G M_X12_termOf (tb_rm 2 0 0) none (tb_ZM G 0 0 (zQ n 0 (zqi (fun z J' => ∃ m', MG [] [] (fun _ => false) J' J b r d s m m' ∧ 0 ≤ z ∧ z < m'))) (zX n 0 zN)) 0 0 n J 0 [some (.ref 164), some (zi h), some (zi x), some (zi y), some (zi w), none, none, none] []
  obtain ⟨hM1, hM2, hM3, hM4, hM5, hM6⟩ := id hM
  have hT := hM.told
  refine tz_aload_n (pc := 0) dX12_termOf_0 rfl rfl ?_
  refine tz_fI (pc := 1) (kz := 21) (v := (J 164 21)) dX12_termOf_1 fl_X12_92 i_164_21 rfl rfl (fun r_1 => ?_)
  refine tz_if_eq (pc := 4) (tgt := 9) dX12_termOf_4 (by decide) (by omega) (fun h_4 => ?_) (fun h_4 => ?_)
  · refine tz_iload_n (pc := 9) dX12_termOf_9 rfl rfl ?_
    refine tz_if_geT (pc := 10) (tgt := 17) (by omega) dX12_termOf_10 (by decide) (by omega) ?_
    refine tz_aload_n (pc := 17) dX12_termOf_17 rfl rfl ?_
    refine tz_fR (pc := 18) dX12_termOf_18 fl_X12_25 r_164_5 ?_
    refine tz_aload_n (pc := 21) dX12_termOf_21 rfl rfl ?_
    refine tz_fI (pc := 22) (kz := 17) (v := d) dX12_termOf_22 fl_X12_82 i_164_17 rfl hM4 (fun r_22 => ?_)
    refine tz_iload_n (pc := 25) dX12_termOf_25 rfl rfl ?_
    refine tz_iadd (pc := 26) (v := d + h) dX12_termOf_26 rfl ?_
    refine tz_aL (pc := 27) (z := (d + h)) (v := 0) dX12_termOf_27 a_170 rfl (by omega) hk.2 (fun _ => ?_)
    refine tz_istore (pc := 28) (L2 := [_, _, _, _, _, _, _, _]) dX12_termOf_28 (by decide) rfl ?_
    refine tz_iconst (pc := 30) dX12_termOf_30 ?_
    refine tz_istore (pc := 31) (L2 := [_, _, _, _, _, _, _, _]) dX12_termOf_31 (by decide) rfl ?_
    have loop33 : ∀ (f9 : Nat) (t : Int), ((m - t).toNat) < f9 → (0 ≤ t ∧ t ≤ m) → (∀ q, 0 ≤ q → q < t → ¬ (J 166 (b + q) = h ∧ (0 < (0 : Int) → J 167 (3 * (b + q) + 0) = x) ∧ (1 < (0 : Int) → J 167 (3 * (b + q) + 1) = y) ∧ (2 < (0 : Int) → J 167 (3 * (b + q) + 2) = w))) → tz_At l G M_X12_termOf (tb_rm 2 0 0) none (tb_ZM G 0 0 (zQ n 0 (zqi (fun z J' => ∃ m', MG [] [] (fun _ => false) J' J b r d s m m' ∧ 0 ≤ z ∧ z < m'))) (zX n 0 zN)) 0 0 n J 33 [some (.ref 164), some (zi h), some (zi x), some (zi y), some (zi w), some (zi 0), some (zi t), none] [] := by
      intro f9
      induction f9 with
      | zero => intro t hm9; exact absurd hm9 (Nat.not_lt_zero _)
      | succ f9 ih33 =>
        intro t hm33 hq hn
        refine tz_iload (pc := 33) dX12_termOf_33 rfl ?_
        refine tz_aload_n (pc := 35) dX12_termOf_35 rfl rfl ?_
        refine tz_cV (pc := 36) (m_many hl n _ b r d s m hM) vl_X12_96 dX12_termOf_36 o_164 rfl rfl (Nat.le_of_ble_eq_true rfl) ⟨(Nat.le_of_ble_eq_true rfl), (Nat.le_of_ble_eq_true rfl)⟩ rfl rfl (Nat.le_of_ble_eq_true rfl) (Nat.le_of_ble_eq_true rfl) (fun r9 J_36 hq9 => ?_)
        obtain ⟨z_36, rfl, hz_36, rfl, rfl⟩ := hq9
        refine tz_icmp_ge (pc := 39) (tgt := 67) dX12_termOf_39 (by decide) (by omega) (by omega) (fun h_39 => ?_) (fun h_39 => ?_)
        · refine tz_iconst (pc := 67) dX12_termOf_67 ?_
          refine tz_istore (pc := 68) (L2 := [_, _, _, _, _, _, _, _]) dX12_termOf_68 (by decide) rfl ?_
          refine tz_iload (pc := 70) dX12_termOf_70 rfl ?_
          refine tz_if_leT (pc := 72) (tgt := 95) (by decide) dX12_termOf_72 (by decide) (by decide) ?_
          refine tz_iload (pc := 95) dX12_termOf_95 rfl ?_
          refine tz_iconst (pc := 97) dX12_termOf_97 ?_
          refine tz_icmp_leT (pc := 98) (tgt := 121) (by decide) dX12_termOf_98 (by decide) (by decide) (by decide) ?_
          refine tz_iload (pc := 121) dX12_termOf_121 rfl ?_
          refine tz_iconst (pc := 123) dX12_termOf_123 ?_
          refine tz_icmp_leT (pc := 124) (tgt := 148) (by decide) dX12_termOf_124 (by decide) (by decide) (by decide) ?_
          refine tz_aload_n (pc := 148) dX12_termOf_148 rfl rfl ?_
          refine tz_iload (pc := 149) dX12_termOf_149 rfl ?_
          refine tz_bipush (pc := 151) dX12_termOf_151 (by decide) ?_
          refine tz_icmp_gtF (pc := 153) (tgt := 166) (by decide) dX12_termOf_153 (by decide) (by decide) (by decide) ?_
          refine tz_aload_n (pc := 156) dX12_termOf_156 rfl rfl ?_
          refine tz_cV (pc := 157) (m_many hl n _ b r d s m hM) vl_X12_96 dX12_termOf_157 o_164 rfl rfl (Nat.le_of_ble_eq_true rfl) ⟨(Nat.le_of_ble_eq_true rfl), (Nat.le_of_ble_eq_true rfl)⟩ rfl rfl (Nat.le_of_ble_eq_true rfl) (Nat.le_of_ble_eq_true rfl) (fun r9 J_157 hq9 => ?_)
          obtain ⟨z_157, rfl, hz_157, rfl, rfl⟩ := hq9
          refine tz_sipush (pc := 160) dX12_termOf_160 (by decide) ?_
          refine tz_icmp_ne (pc := 163) (tgt := 170) dX12_termOf_163 (by decide) (by omega) (by decide) (fun h_163 => ?_) (fun h_163 => ?_)
          · refine tz_iconst (pc := 170) dX12_termOf_170 ?_
            refine tz_pZ (pc := 171) (kz := 21) dX12_termOf_171 fl_X12_92 i_164_21 rfl rfl (Or.inl rfl) ?_
            refine tz_aload_n (pc := 174) dX12_termOf_174 rfl rfl ?_
            refine tz_fI (pc := 175) (kz := 21) (v := 0) dX12_termOf_175 fl_X12_92 i_164_21 rfl rfl (fun _ => ?_)
            refine tz_if_eqT (pc := 178) (tgt := 183) (by decide) dX12_termOf_178 (by decide) (by decide) ?_
            refine tz_aload_n (pc := 183) dX12_termOf_183 rfl rfl ?_
            refine tz_cV (pc := 184) (m_many hl n _ b r d s m (hM.of ⟨zup_ne (by decide), zup_ne (by decide), zup_ne (by decide)⟩ rfl rfl rfl rfl rfl)) vl_X12_96 dX12_termOf_184 o_164 rfl rfl (Nat.le_of_ble_eq_true rfl) ⟨(Nat.le_of_ble_eq_true rfl), (Nat.le_of_ble_eq_true rfl)⟩ rfl rfl (Nat.le_of_ble_eq_true rfl) (Nat.le_of_ble_eq_true rfl) (fun r9 J_184 hq9 => ?_)
            obtain ⟨z_184, rfl, hz_184, rfl, rfl⟩ := hq9
            refine tz_istore (pc := 187) (L2 := [_, _, _, _, _, _, _, _]) dX12_termOf_187 (by decide) rfl ?_
            refine tz_aload_n (pc := 189) dX12_termOf_189 rfl rfl ?_
            refine tz_fR (pc := 190) dX12_termOf_190 fl_X12_13 r_164_1 ?_
            refine tz_aload_n (pc := 193) dX12_termOf_193 rfl rfl ?_
            refine tz_fI (pc := 194) (kz := 15) (v := b) dX12_termOf_194 fl_X12_71 i_164_15 rfl hM2 (fun r_194 => ?_)
            refine tz_iload (pc := 197) dX12_termOf_197 rfl ?_
            refine tz_iadd (pc := 199) (v := b + m) dX12_termOf_199 rfl ?_
            refine tz_iload_n (pc := 200) dX12_termOf_200 rfl rfl ?_
            refine tz_aS (pc := 201) (z := (b + m)) dX12_termOf_201 a_166 rfl (by omega) (by omega) ?_
            refine tz_aload_n (pc := 202) dX12_termOf_202 rfl rfl ?_
            refine tz_fR (pc := 203) dX12_termOf_203 fl_X12_16 r_164_2 ?_
            refine tz_iconst (pc := 206) dX12_termOf_206 ?_
            refine tz_aload_n (pc := 207) dX12_termOf_207 rfl rfl ?_
            refine tz_fI (pc := 208) (kz := 15) (v := b) dX12_termOf_208 fl_X12_71 i_164_15 rfl hM2 (fun r_208 => ?_)
            refine tz_iload (pc := 211) dX12_termOf_211 rfl ?_
            refine tz_iadd (pc := 213) (v := b + m) dX12_termOf_213 rfl ?_
            refine tz_imul (pc := 214) (v := 3 * (b + m)) dX12_termOf_214 rfl ?_
            refine tz_iload (pc := 215) dX12_termOf_215 rfl ?_
            refine tz_if_leT (pc := 217) (tgt := 224) (by decide) dX12_termOf_217 (by decide) (by decide) ?_
            refine tz_iconst (pc := 224) dX12_termOf_224 ?_
            refine tz_aS (pc := 225) (z := (3 * (b + m))) dX12_termOf_225 a_167 rfl (by omega) (by decide) ?_
            refine tz_aload_n (pc := 226) dX12_termOf_226 rfl rfl ?_
            refine tz_fR (pc := 227) dX12_termOf_227 fl_X12_16 r_164_2 ?_
            refine tz_iconst (pc := 230) dX12_termOf_230 ?_
            refine tz_aload_n (pc := 231) dX12_termOf_231 rfl rfl ?_
            refine tz_fI (pc := 232) (kz := 15) (v := b) dX12_termOf_232 fl_X12_71 i_164_15 rfl hM2 (fun r_232 => ?_)
            refine tz_iload (pc := 235) dX12_termOf_235 rfl ?_
            refine tz_iadd (pc := 237) (v := b + m) dX12_termOf_237 rfl ?_
            refine tz_imul (pc := 238) (v := 3 * (b + m)) dX12_termOf_238 rfl ?_
            refine tz_iconst (pc := 239) dX12_termOf_239 ?_
            refine tz_iadd (pc := 240) (v := (3 * (b + m)) + 1) dX12_termOf_240 rfl ?_
            refine tz_iload (pc := 241) dX12_termOf_241 rfl ?_
            refine tz_iconst (pc := 243) dX12_termOf_243 ?_
            refine tz_icmp_leT (pc := 244) (tgt := 251) (by decide) dX12_termOf_244 (by decide) (by decide) (by decide) ?_
            refine tz_iconst (pc := 251) dX12_termOf_251 ?_
            refine tz_aS (pc := 252) (z := ((3 * (b + m)) + 1)) dX12_termOf_252 a_167 rfl (by omega) (by decide) ?_
            refine tz_aload_n (pc := 253) dX12_termOf_253 rfl rfl ?_
            refine tz_fR (pc := 254) dX12_termOf_254 fl_X12_16 r_164_2 ?_
            refine tz_iconst (pc := 257) dX12_termOf_257 ?_
            refine tz_aload_n (pc := 258) dX12_termOf_258 rfl rfl ?_
            refine tz_fI (pc := 259) (kz := 15) (v := b) dX12_termOf_259 fl_X12_71 i_164_15 rfl hM2 (fun r_259 => ?_)
            refine tz_iload (pc := 262) dX12_termOf_262 rfl ?_
            refine tz_iadd (pc := 264) (v := b + m) dX12_termOf_264 rfl ?_
            refine tz_imul (pc := 265) (v := 3 * (b + m)) dX12_termOf_265 rfl ?_
            refine tz_iconst (pc := 266) dX12_termOf_266 ?_
            refine tz_iadd (pc := 267) (v := (3 * (b + m)) + 2) dX12_termOf_267 rfl ?_
            refine tz_iload (pc := 268) dX12_termOf_268 rfl ?_
            refine tz_iconst (pc := 270) dX12_termOf_270 ?_
            refine tz_icmp_leT (pc := 271) (tgt := 279) (by decide) dX12_termOf_271 (by decide) (by decide) (by decide) ?_
            refine tz_iconst (pc := 279) dX12_termOf_279 ?_
            refine tz_aS (pc := 280) (z := ((3 * (b + m)) + 2)) dX12_termOf_280 a_167 rfl (by omega) (by decide) ?_
            refine tz_aload_n (pc := 281) dX12_termOf_281 rfl rfl ?_
            refine tz_fR (pc := 282) dX12_termOf_282 fl_X12_19 r_164_3 ?_
            refine tz_aload_n (pc := 285) dX12_termOf_285 rfl rfl ?_
            refine tz_fI (pc := 286) (kz := 15) (v := b) dX12_termOf_286 fl_X12_71 i_164_15 rfl hM2 (fun r_286 => ?_)
            refine tz_iload (pc := 289) dX12_termOf_289 rfl ?_
            refine tz_iadd (pc := 291) (v := b + m) dX12_termOf_291 rfl ?_
            refine tz_iload (pc := 292) dX12_termOf_292 rfl ?_
            refine tz_aS (pc := 294) (z := (b + m)) dX12_termOf_294 a_168 rfl (by omega) (by decide) ?_
            refine tz_aload_n (pc := 295) dX12_termOf_295 rfl rfl ?_
            refine tz_fR (pc := 296) dX12_termOf_296 fl_X12_9 r_164_0 ?_
            refine tz_aload_n (pc := 299) dX12_termOf_299 rfl rfl ?_
            refine tz_fI (pc := 300) (kz := 16) (v := r) dX12_termOf_300 fl_X12_85 i_164_16 rfl hM3 (fun r_300 => ?_)
            refine tz_iconst (pc := 303) dX12_termOf_303 ?_
            refine tz_iadd (pc := 304) (v := r) dX12_termOf_304 (Int.add_zero _) ?_
            refine tz_dup2 (pc := 305) dX12_termOf_305 rfl rfl ?_
            refine tz_aL (pc := 306) (z := r) (v := m) dX12_termOf_306 a_165 rfl (by omega) hM5 (fun r_306 => ?_)
            refine tz_iconst (pc := 307) dX12_termOf_307 ?_
            refine tz_iadd (pc := 308) (v := m + 1) dX12_termOf_308 rfl ?_
            refine tz_aS (pc := 309) (z := r) dX12_termOf_309 a_165 rfl (by omega) (by omega) ?_
            refine tz_iload (pc := 310) dX12_termOf_310 rfl ?_
            exact tz_iret (pc := 312) (z := m) dX12_termOf_312 rfl (Nat.le_of_ble_eq_true rfl) (Nat.le_of_ble_eq_true rfl) ⟨Nat.le_refl _, Nat.le_add_right _ _⟩ ⟨_, rfl, (by omega), ⟨m + 1, hM.push (A := 0) (x := x) (y := y) (w := w) (by omega) hh (by unfold arh; rw [if_neg (by omega)]; exact hk.2) (by decide) (fun g => absurd g (by decide)) (fun g => absurd g (by decide)) (fun g => absurd g (by decide)) (fun q a c => hn q a (by omega)) (by omega) (by omega) h_4, by omega⟩⟩
          · refine tz_iconst (pc := 166) dX12_termOf_166 ?_
            refine tz_goto (pc := 167) (tgt := 171) dX12_termOf_167 (by decide) ?_
            refine tz_pZ (pc := 171) (kz := 21) dX12_termOf_171 fl_X12_92 i_164_21 rfl rfl (Or.inr rfl) ?_
            refine tz_aload_n (pc := 174) dX12_termOf_174 rfl rfl ?_
            refine tz_fI (pc := 175) (kz := 21) (v := 1) dX12_termOf_175 fl_X12_92 i_164_21 rfl rfl (fun _ => ?_)
            refine tz_if_eqF (pc := 178) (tgt := 183) (by decide) dX12_termOf_178 (by decide) (by decide) ?_
            refine tz_iconst (pc := 181) dX12_termOf_181 ?_
            exact tz_iret (pc := 182) (z := 0) dX12_termOf_182 rfl (Nat.le_of_ble_eq_true rfl) (Nat.le_of_ble_eq_true rfl) ⟨Nat.le_refl _, Nat.le_add_right _ _⟩ ⟨_, rfl, (by decide), ⟨m, (MG.rf hM).full (fun q => absurd q (by decide)), by omega⟩⟩
        · refine tz_aload_n (pc := 42) dX12_termOf_42 rfl rfl ?_
          refine tz_iload (pc := 43) dX12_termOf_43 rfl ?_
          refine tz_iload_n (pc := 45) dX12_termOf_45 rfl rfl ?_
          refine tz_iload (pc := 46) dX12_termOf_46 rfl ?_
          refine tz_iload_n (pc := 48) dX12_termOf_48 rfl rfl ?_
          refine tz_iload_n (pc := 49) dX12_termOf_49 rfl rfl ?_
          refine tz_iload (pc := 50) dX12_termOf_50 rfl ?_
          refine tz_cV (pc := 52) (m_isThat hl n _ _ _ _ _ _ _ (by omega) (by omega) (by decide) (by omega) (by omega) (by omega) b r d s m hM (by omega)) vl_X12_100 dX12_termOf_52 o_164 rfl rfl (Nat.le_of_ble_eq_true rfl) ⟨(Nat.le_of_ble_eq_true rfl), (Nat.le_of_ble_eq_true rfl)⟩ rfl rfl (Nat.le_of_ble_eq_true rfl) (Nat.le_of_ble_eq_true rfl) (fun r9 J_52 hq9 => ?_)
          obtain ⟨zi9, rfl, hz_52, rfl, hi1, hi2⟩ := hq9
          refine tz_if_eq (pc := 55) (tgt := 61) dX12_termOf_55 (by decide) (by omega) (fun h_55 => ?_) (fun h_55 => ?_)
          · refine tz_iinc (pc := 61) (z := t + 1) (L2 := [_, _, _, _, _, _, _, _]) dX12_termOf_61 rfl (by omega) rfl ?_
            refine tz_goto (pc := 64) (tgt := 33) dX12_termOf_64 (by decide) ?_
            exact ih33 (t + 1) (by omega) (by omega) (fun q a c => (Decidable.em (q = t)).elim (fun e => by rw [e]; exact fun e9 => by have := hi2.mpr e9; omega) (fun e => hn q a (by omega)))
          · refine tz_iload (pc := 58) dX12_termOf_58 rfl ?_
            exact tz_iret (pc := 60) (z := t) dX12_termOf_60 rfl (Nat.le_of_ble_eq_true rfl) (Nat.le_of_ble_eq_true rfl) ⟨Nat.le_refl _, Nat.le_add_right _ _⟩ ⟨_, rfl, (by omega), ⟨m, MG.rf hM, by omega⟩⟩
    exact loop33 _ 0 (Nat.lt_succ_self _) (by omega) (fun q a c => by omega)
  · refine tz_iconst (pc := 7) dX12_termOf_7 ?_
    exact tz_iret (pc := 8) (z := 0) dX12_termOf_8 rfl (Nat.le_of_ble_eq_true rfl) (Nat.le_of_ble_eq_true rfl) ⟨Nat.le_refl _, Nat.le_add_right _ _⟩ ⟨_, rfl, (by decide), ⟨m, MG.rf hM, by omega⟩⟩

set_option maxHeartbeats 4000000 in
set_option maxRecDepth 100000 in
theorem m_tu1 {l : Launch} {G : tb_G} (hl : l.stackTraces = false) (n : Nat) (J : zJ) (h : Int) (x : Int) (y : Int) (w : Int) (hr_h : -2147483648 ≤ h ∧ h < 2147483648) (hr_x : -2147483648 ≤ x ∧ x < 2147483648) (hr_y : -2147483648 ≤ y ∧ y < 2147483648) (hr_w : -2147483648 ≤ w ∧ w < 2147483648) (b r d s m : Int) (hM : MS J b r d s m) (hh : -8 ≤ h ∧ h < s) (hk : 0 ≤ h ∧ J 170 (d + h) = 1) (hu : J 164 21 = 0 ∨ 0 < m) (hg : (0 < (1 : Int) → 0 ≤ x ∧ x < m) ∧ (1 < (1 : Int) → 0 ≤ y ∧ y < m) ∧ (2 < (1 : Int) → 0 ≤ w ∧ w < m)) : tz_Ok l G M_X12_termOf 2 0 0 [.ref 164, zi h, zi x, zi y, zi w] n J (zqi (fun z J' => ∃ m', MG [] [] (fun _ => false) J' J b r d s m m' ∧ 0 ≤ z ∧ z < m')) zN := by
  refine tz_Ok.of hl (by decide +kernel) rfl (tb_c1 rfl) (Nat.le_of_ble_eq_true rfl) ?_
  show tz_At l G M_X12_termOf (tb_rm 2 0 0) none (tb_ZM G 0 0 (zQ n 0 (zqi (fun z J' => ∃ m', MG [] [] (fun _ => false) J' J b r d s m m' ∧ 0 ≤ z ∧ z < m'))) (zX n 0 zN)) 0 0 n J 0 [some (.ref 164), some (zi h), some (zi x), some (zi y), some (zi w), none, none, none] []
  obtain ⟨hM1, hM2, hM3, hM4, hM5, hM6⟩ := id hM
  have hT := hM.told
  refine tz_aload_n (pc := 0) dX12_termOf_0 rfl rfl ?_
  refine tz_fI (pc := 1) (kz := 21) (v := (J 164 21)) dX12_termOf_1 fl_X12_92 i_164_21 rfl rfl (fun r_1 => ?_)
  refine tz_if_eq (pc := 4) (tgt := 9) dX12_termOf_4 (by decide) (by omega) (fun h_4 => ?_) (fun h_4 => ?_)
  · refine tz_iload_n (pc := 9) dX12_termOf_9 rfl rfl ?_
    refine tz_if_geT (pc := 10) (tgt := 17) (by omega) dX12_termOf_10 (by decide) (by omega) ?_
    refine tz_aload_n (pc := 17) dX12_termOf_17 rfl rfl ?_
    refine tz_fR (pc := 18) dX12_termOf_18 fl_X12_25 r_164_5 ?_
    refine tz_aload_n (pc := 21) dX12_termOf_21 rfl rfl ?_
    refine tz_fI (pc := 22) (kz := 17) (v := d) dX12_termOf_22 fl_X12_82 i_164_17 rfl hM4 (fun r_22 => ?_)
    refine tz_iload_n (pc := 25) dX12_termOf_25 rfl rfl ?_
    refine tz_iadd (pc := 26) (v := d + h) dX12_termOf_26 rfl ?_
    refine tz_aL (pc := 27) (z := (d + h)) (v := 1) dX12_termOf_27 a_170 rfl (by omega) hk.2 (fun _ => ?_)
    refine tz_istore (pc := 28) (L2 := [_, _, _, _, _, _, _, _]) dX12_termOf_28 (by decide) rfl ?_
    refine tz_iconst (pc := 30) dX12_termOf_30 ?_
    refine tz_istore (pc := 31) (L2 := [_, _, _, _, _, _, _, _]) dX12_termOf_31 (by decide) rfl ?_
    have loop33 : ∀ (f9 : Nat) (t : Int), ((m - t).toNat) < f9 → (0 ≤ t ∧ t ≤ m) → (∀ q, 0 ≤ q → q < t → ¬ (J 166 (b + q) = h ∧ (0 < (1 : Int) → J 167 (3 * (b + q) + 0) = x) ∧ (1 < (1 : Int) → J 167 (3 * (b + q) + 1) = y) ∧ (2 < (1 : Int) → J 167 (3 * (b + q) + 2) = w))) → tz_At l G M_X12_termOf (tb_rm 2 0 0) none (tb_ZM G 0 0 (zQ n 0 (zqi (fun z J' => ∃ m', MG [] [] (fun _ => false) J' J b r d s m m' ∧ 0 ≤ z ∧ z < m'))) (zX n 0 zN)) 0 0 n J 33 [some (.ref 164), some (zi h), some (zi x), some (zi y), some (zi w), some (zi 1), some (zi t), none] [] := by
      intro f9
      induction f9 with
      | zero => intro t hm9; exact absurd hm9 (Nat.not_lt_zero _)
      | succ f9 ih33 =>
        intro t hm33 hq hn
        refine tz_iload (pc := 33) dX12_termOf_33 rfl ?_
        refine tz_aload_n (pc := 35) dX12_termOf_35 rfl rfl ?_
        refine tz_cV (pc := 36) (m_many hl n _ b r d s m hM) vl_X12_96 dX12_termOf_36 o_164 rfl rfl (Nat.le_of_ble_eq_true rfl) ⟨(Nat.le_of_ble_eq_true rfl), (Nat.le_of_ble_eq_true rfl)⟩ rfl rfl (Nat.le_of_ble_eq_true rfl) (Nat.le_of_ble_eq_true rfl) (fun r9 J_36 hq9 => ?_)
        obtain ⟨z_36, rfl, hz_36, rfl, rfl⟩ := hq9
        refine tz_icmp_ge (pc := 39) (tgt := 67) dX12_termOf_39 (by decide) (by omega) (by omega) (fun h_39 => ?_) (fun h_39 => ?_)
        · have hz0 := hM.ar (t := x) (by omega)
          refine tz_iconst (pc := 67) dX12_termOf_67 ?_
          refine tz_istore (pc := 68) (L2 := [_, _, _, _, _, _, _, _]) dX12_termOf_68 (by decide) rfl ?_
          refine tz_iload (pc := 70) dX12_termOf_70 rfl ?_
          refine tz_if_leF (pc := 72) (tgt := 95) (by decide) dX12_termOf_72 (by decide) (by decide) ?_
          refine tz_iload (pc := 75) dX12_termOf_75 rfl ?_
          refine tz_aload_n (pc := 77) dX12_termOf_77 rfl rfl ?_
          refine tz_fR (pc := 78) dX12_termOf_78 fl_X12_19 r_164_3 ?_
          refine tz_aload_n (pc := 81) dX12_termOf_81 rfl rfl ?_
          refine tz_fI (pc := 82) (kz := 15) (v := b) dX12_termOf_82 fl_X12_71 i_164_15 rfl hM2 (fun r_82 => ?_)
          refine tz_iload_n (pc := 85) dX12_termOf_85 rfl rfl ?_
          refine tz_iadd (pc := 86) (v := b + x) dX12_termOf_86 rfl ?_
          refine tz_aL (pc := 87) (z := (b + x)) (v := (J 168 (b + x))) dX12_termOf_87 a_168 rfl (by omega) rfl (fun r_87 => ?_)
          refine tz_iconst (pc := 88) dX12_termOf_88 ?_
          refine tz_iadd (pc := 89) (v := (J 168 (b + x)) + 1) dX12_termOf_89 rfl ?_
          refine tz_cS (pc := 90) (zm_greater hl n _ _ _ (by decide) (by omega)) sl_X12_104 dX12_termOf_90 rfl rfl (Nat.le_of_ble_eq_true rfl) ⟨(Nat.le_of_ble_eq_true rfl), (Nat.le_of_ble_eq_true rfl)⟩ rfl rfl (Nat.le_of_ble_eq_true rfl) (Nat.le_of_ble_eq_true rfl) (fun r9 J_90 hq9 => ?_)
          obtain ⟨z_90, rfl, hz_90, rfl, hg_90⟩ := hq9
          have gz_90 : (1 ≤ z_90 ∧ ((J 168 (b + x)) + 1) ≤ z_90) ∧ (z_90 = 1 ∨ z_90 = ((J 168 (b + x)) + 1)) := by rw [← hg_90]; split <;> omega
          refine tz_istore (pc := 93) (L2 := [_, _, _, _, _, _, _, _]) dX12_termOf_93 (by decide) rfl ?_
          refine tz_iload (pc := 95) dX12_termOf_95 rfl ?_
          refine tz_iconst (pc := 97) dX12_termOf_97 ?_
          refine tz_icmp_leT (pc := 98) (tgt := 121) (by decide) dX12_termOf_98 (by decide) (by decide) (by decide) ?_
          refine tz_iload (pc := 121) dX12_termOf_121 rfl ?_
          refine tz_iconst (pc := 123) dX12_termOf_123 ?_
          refine tz_icmp_leT (pc := 124) (tgt := 148) (by decide) dX12_termOf_124 (by decide) (by decide) (by decide) ?_
          refine tz_aload_n (pc := 148) dX12_termOf_148 rfl rfl ?_
          refine tz_iload (pc := 149) dX12_termOf_149 rfl ?_
          refine tz_bipush (pc := 151) dX12_termOf_151 (by decide) ?_
          refine tz_icmp_gt (pc := 153) (tgt := 166) dX12_termOf_153 (by decide) (by omega) (by decide) (fun h_153 => ?_) (fun h_153 => ?_)
          · refine tz_iconst (pc := 166) dX12_termOf_166 ?_
            refine tz_goto (pc := 167) (tgt := 171) dX12_termOf_167 (by decide) ?_
            refine tz_pZ (pc := 171) (kz := 21) dX12_termOf_171 fl_X12_92 i_164_21 rfl rfl (Or.inr rfl) ?_
            refine tz_aload_n (pc := 174) dX12_termOf_174 rfl rfl ?_
            refine tz_fI (pc := 175) (kz := 21) (v := 1) dX12_termOf_175 fl_X12_92 i_164_21 rfl rfl (fun _ => ?_)
            refine tz_if_eqF (pc := 178) (tgt := 183) (by decide) dX12_termOf_178 (by decide) (by decide) ?_
            refine tz_iconst (pc := 181) dX12_termOf_181 ?_
            exact tz_iret (pc := 182) (z := 0) dX12_termOf_182 rfl (Nat.le_of_ble_eq_true rfl) (Nat.le_of_ble_eq_true rfl) ⟨Nat.le_refl _, Nat.le_add_right _ _⟩ ⟨_, rfl, (by decide), ⟨m, (MG.rf hM).full (fun q => absurd q (by decide)), by omega⟩⟩
          · refine tz_aload_n (pc := 156) dX12_termOf_156 rfl rfl ?_
            refine tz_cV (pc := 157) (m_many hl n _ b r d s m hM) vl_X12_96 dX12_termOf_157 o_164 rfl rfl (Nat.le_of_ble_eq_true rfl) ⟨(Nat.le_of_ble_eq_true rfl), (Nat.le_of_ble_eq_true rfl)⟩ rfl rfl (Nat.le_of_ble_eq_true rfl) (Nat.le_of_ble_eq_true rfl) (fun r9 J_157 hq9 => ?_)
            obtain ⟨z_157, rfl, hz_157, rfl, rfl⟩ := hq9
            refine tz_sipush (pc := 160) dX12_termOf_160 (by decide) ?_
            refine tz_icmp_ne (pc := 163) (tgt := 170) dX12_termOf_163 (by decide) (by omega) (by decide) (fun h_163 => ?_) (fun h_163 => ?_)
            · refine tz_iconst (pc := 170) dX12_termOf_170 ?_
              refine tz_pZ (pc := 171) (kz := 21) dX12_termOf_171 fl_X12_92 i_164_21 rfl rfl (Or.inl rfl) ?_
              refine tz_aload_n (pc := 174) dX12_termOf_174 rfl rfl ?_
              refine tz_fI (pc := 175) (kz := 21) (v := 0) dX12_termOf_175 fl_X12_92 i_164_21 rfl rfl (fun _ => ?_)
              refine tz_if_eqT (pc := 178) (tgt := 183) (by decide) dX12_termOf_178 (by decide) (by decide) ?_
              refine tz_aload_n (pc := 183) dX12_termOf_183 rfl rfl ?_
              refine tz_cV (pc := 184) (m_many hl n _ b r d s m (hM.of ⟨zup_ne (by decide), zup_ne (by decide), zup_ne (by decide)⟩ rfl rfl rfl rfl rfl)) vl_X12_96 dX12_termOf_184 o_164 rfl rfl (Nat.le_of_ble_eq_true rfl) ⟨(Nat.le_of_ble_eq_true rfl), (Nat.le_of_ble_eq_true rfl)⟩ rfl rfl (Nat.le_of_ble_eq_true rfl) (Nat.le_of_ble_eq_true rfl) (fun r9 J_184 hq9 => ?_)
              obtain ⟨z_184, rfl, hz_184, rfl, rfl⟩ := hq9
              refine tz_istore (pc := 187) (L2 := [_, _, _, _, _, _, _, _]) dX12_termOf_187 (by decide) rfl ?_
              refine tz_aload_n (pc := 189) dX12_termOf_189 rfl rfl ?_
              refine tz_fR (pc := 190) dX12_termOf_190 fl_X12_13 r_164_1 ?_
              refine tz_aload_n (pc := 193) dX12_termOf_193 rfl rfl ?_
              refine tz_fI (pc := 194) (kz := 15) (v := b) dX12_termOf_194 fl_X12_71 i_164_15 rfl hM2 (fun r_194 => ?_)
              refine tz_iload (pc := 197) dX12_termOf_197 rfl ?_
              refine tz_iadd (pc := 199) (v := b + m) dX12_termOf_199 rfl ?_
              refine tz_iload_n (pc := 200) dX12_termOf_200 rfl rfl ?_
              refine tz_aS (pc := 201) (z := (b + m)) dX12_termOf_201 a_166 rfl (by omega) (by omega) ?_
              refine tz_aload_n (pc := 202) dX12_termOf_202 rfl rfl ?_
              refine tz_fR (pc := 203) dX12_termOf_203 fl_X12_16 r_164_2 ?_
              refine tz_iconst (pc := 206) dX12_termOf_206 ?_
              refine tz_aload_n (pc := 207) dX12_termOf_207 rfl rfl ?_
              refine tz_fI (pc := 208) (kz := 15) (v := b) dX12_termOf_208 fl_X12_71 i_164_15 rfl hM2 (fun r_208 => ?_)
              refine tz_iload (pc := 211) dX12_termOf_211 rfl ?_
              refine tz_iadd (pc := 213) (v := b + m) dX12_termOf_213 rfl ?_
              refine tz_imul (pc := 214) (v := 3 * (b + m)) dX12_termOf_214 rfl ?_
              refine tz_iload (pc := 215) dX12_termOf_215 rfl ?_
              refine tz_if_leF (pc := 217) (tgt := 224) (by decide) dX12_termOf_217 (by decide) (by decide) ?_
              refine tz_iload_n (pc := 220) dX12_termOf_220 rfl rfl ?_
              refine tz_goto (pc := 221) (tgt := 225) dX12_termOf_221 (by decide) ?_
              refine tz_aS (pc := 225) (z := (3 * (b + m))) dX12_termOf_225 a_167 rfl (by omega) (by omega) ?_
              refine tz_aload_n (pc := 226) dX12_termOf_226 rfl rfl ?_
              refine tz_fR (pc := 227) dX12_termOf_227 fl_X12_16 r_164_2 ?_
              refine tz_iconst (pc := 230) dX12_termOf_230 ?_
              refine tz_aload_n (pc := 231) dX12_termOf_231 rfl rfl ?_
              refine tz_fI (pc := 232) (kz := 15) (v := b) dX12_termOf_232 fl_X12_71 i_164_15 rfl hM2 (fun r_232 => ?_)
              refine tz_iload (pc := 235) dX12_termOf_235 rfl ?_
              refine tz_iadd (pc := 237) (v := b + m) dX12_termOf_237 rfl ?_
              refine tz_imul (pc := 238) (v := 3 * (b + m)) dX12_termOf_238 rfl ?_
              refine tz_iconst (pc := 239) dX12_termOf_239 ?_
              refine tz_iadd (pc := 240) (v := (3 * (b + m)) + 1) dX12_termOf_240 rfl ?_
              refine tz_iload (pc := 241) dX12_termOf_241 rfl ?_
              refine tz_iconst (pc := 243) dX12_termOf_243 ?_
              refine tz_icmp_leT (pc := 244) (tgt := 251) (by decide) dX12_termOf_244 (by decide) (by decide) (by decide) ?_
              refine tz_iconst (pc := 251) dX12_termOf_251 ?_
              refine tz_aS (pc := 252) (z := ((3 * (b + m)) + 1)) dX12_termOf_252 a_167 rfl (by omega) (by decide) ?_
              refine tz_aload_n (pc := 253) dX12_termOf_253 rfl rfl ?_
              refine tz_fR (pc := 254) dX12_termOf_254 fl_X12_16 r_164_2 ?_
              refine tz_iconst (pc := 257) dX12_termOf_257 ?_
              refine tz_aload_n (pc := 258) dX12_termOf_258 rfl rfl ?_
              refine tz_fI (pc := 259) (kz := 15) (v := b) dX12_termOf_259 fl_X12_71 i_164_15 rfl hM2 (fun r_259 => ?_)
              refine tz_iload (pc := 262) dX12_termOf_262 rfl ?_
              refine tz_iadd (pc := 264) (v := b + m) dX12_termOf_264 rfl ?_
              refine tz_imul (pc := 265) (v := 3 * (b + m)) dX12_termOf_265 rfl ?_
              refine tz_iconst (pc := 266) dX12_termOf_266 ?_
              refine tz_iadd (pc := 267) (v := (3 * (b + m)) + 2) dX12_termOf_267 rfl ?_
              refine tz_iload (pc := 268) dX12_termOf_268 rfl ?_
              refine tz_iconst (pc := 270) dX12_termOf_270 ?_
              refine tz_icmp_leT (pc := 271) (tgt := 279) (by decide) dX12_termOf_271 (by decide) (by decide) (by decide) ?_
              refine tz_iconst (pc := 279) dX12_termOf_279 ?_
              refine tz_aS (pc := 280) (z := ((3 * (b + m)) + 2)) dX12_termOf_280 a_167 rfl (by omega) (by decide) ?_
              refine tz_aload_n (pc := 281) dX12_termOf_281 rfl rfl ?_
              refine tz_fR (pc := 282) dX12_termOf_282 fl_X12_19 r_164_3 ?_
              refine tz_aload_n (pc := 285) dX12_termOf_285 rfl rfl ?_
              refine tz_fI (pc := 286) (kz := 15) (v := b) dX12_termOf_286 fl_X12_71 i_164_15 rfl hM2 (fun r_286 => ?_)
              refine tz_iload (pc := 289) dX12_termOf_289 rfl ?_
              refine tz_iadd (pc := 291) (v := b + m) dX12_termOf_291 rfl ?_
              refine tz_iload (pc := 292) dX12_termOf_292 rfl ?_
              refine tz_aS (pc := 294) (z := (b + m)) dX12_termOf_294 a_168 rfl (by omega) (by omega) ?_
              refine tz_aload_n (pc := 295) dX12_termOf_295 rfl rfl ?_
              refine tz_fR (pc := 296) dX12_termOf_296 fl_X12_9 r_164_0 ?_
              refine tz_aload_n (pc := 299) dX12_termOf_299 rfl rfl ?_
              refine tz_fI (pc := 300) (kz := 16) (v := r) dX12_termOf_300 fl_X12_85 i_164_16 rfl hM3 (fun r_300 => ?_)
              refine tz_iconst (pc := 303) dX12_termOf_303 ?_
              refine tz_iadd (pc := 304) (v := r) dX12_termOf_304 (Int.add_zero _) ?_
              refine tz_dup2 (pc := 305) dX12_termOf_305 rfl rfl ?_
              refine tz_aL (pc := 306) (z := r) (v := m) dX12_termOf_306 a_165 rfl (by omega) hM5 (fun r_306 => ?_)
              refine tz_iconst (pc := 307) dX12_termOf_307 ?_
              refine tz_iadd (pc := 308) (v := m + 1) dX12_termOf_308 rfl ?_
              refine tz_aS (pc := 309) (z := r) dX12_termOf_309 a_165 rfl (by omega) (by omega) ?_
              refine tz_iload (pc := 310) dX12_termOf_310 rfl ?_
              exact tz_iret (pc := 312) (z := m) dX12_termOf_312 rfl (Nat.le_of_ble_eq_true rfl) (Nat.le_of_ble_eq_true rfl) ⟨Nat.le_refl _, Nat.le_add_right _ _⟩ ⟨_, rfl, (by omega), ⟨m + 1, hM.push (A := 1) (x := x) (y := y) (w := w) (by omega) hh (by unfold arh; rw [if_neg (by omega)]; exact hk.2) (by decide) (fun _ => ⟨rfl, by omega, by omega⟩) (fun g => absurd g (by decide)) (fun g => absurd g (by decide)) (fun q a c => hn q a (by omega)) (by omega) (by omega) h_4, by omega⟩⟩
            · refine tz_iconst (pc := 166) dX12_termOf_166 ?_
              refine tz_goto (pc := 167) (tgt := 171) dX12_termOf_167 (by decide) ?_
              refine tz_pZ (pc := 171) (kz := 21) dX12_termOf_171 fl_X12_92 i_164_21 rfl rfl (Or.inr rfl) ?_
              refine tz_aload_n (pc := 174) dX12_termOf_174 rfl rfl ?_
              refine tz_fI (pc := 175) (kz := 21) (v := 1) dX12_termOf_175 fl_X12_92 i_164_21 rfl rfl (fun _ => ?_)
              refine tz_if_eqF (pc := 178) (tgt := 183) (by decide) dX12_termOf_178 (by decide) (by decide) ?_
              refine tz_iconst (pc := 181) dX12_termOf_181 ?_
              exact tz_iret (pc := 182) (z := 0) dX12_termOf_182 rfl (Nat.le_of_ble_eq_true rfl) (Nat.le_of_ble_eq_true rfl) ⟨Nat.le_refl _, Nat.le_add_right _ _⟩ ⟨_, rfl, (by decide), ⟨m, (MG.rf hM).full (fun q => absurd q (by decide)), by omega⟩⟩
        · refine tz_aload_n (pc := 42) dX12_termOf_42 rfl rfl ?_
          refine tz_iload (pc := 43) dX12_termOf_43 rfl ?_
          refine tz_iload_n (pc := 45) dX12_termOf_45 rfl rfl ?_
          refine tz_iload (pc := 46) dX12_termOf_46 rfl ?_
          refine tz_iload_n (pc := 48) dX12_termOf_48 rfl rfl ?_
          refine tz_iload_n (pc := 49) dX12_termOf_49 rfl rfl ?_
          refine tz_iload (pc := 50) dX12_termOf_50 rfl ?_
          refine tz_cV (pc := 52) (m_isThat hl n _ _ _ _ _ _ _ (by omega) (by omega) (by decide) (by omega) (by omega) (by omega) b r d s m hM (by omega)) vl_X12_100 dX12_termOf_52 o_164 rfl rfl (Nat.le_of_ble_eq_true rfl) ⟨(Nat.le_of_ble_eq_true rfl), (Nat.le_of_ble_eq_true rfl)⟩ rfl rfl (Nat.le_of_ble_eq_true rfl) (Nat.le_of_ble_eq_true rfl) (fun r9 J_52 hq9 => ?_)
          obtain ⟨zi9, rfl, hz_52, rfl, hi1, hi2⟩ := hq9
          refine tz_if_eq (pc := 55) (tgt := 61) dX12_termOf_55 (by decide) (by omega) (fun h_55 => ?_) (fun h_55 => ?_)
          · refine tz_iinc (pc := 61) (z := t + 1) (L2 := [_, _, _, _, _, _, _, _]) dX12_termOf_61 rfl (by omega) rfl ?_
            refine tz_goto (pc := 64) (tgt := 33) dX12_termOf_64 (by decide) ?_
            exact ih33 (t + 1) (by omega) (by omega) (fun q a c => (Decidable.em (q = t)).elim (fun e => by rw [e]; exact fun e9 => by have := hi2.mpr e9; omega) (fun e => hn q a (by omega)))
          · refine tz_iload (pc := 58) dX12_termOf_58 rfl ?_
            exact tz_iret (pc := 60) (z := t) dX12_termOf_60 rfl (Nat.le_of_ble_eq_true rfl) (Nat.le_of_ble_eq_true rfl) ⟨Nat.le_refl _, Nat.le_add_right _ _⟩ ⟨_, rfl, (by omega), ⟨m, MG.rf hM, by omega⟩⟩
    exact loop33 _ 0 (Nat.lt_succ_self _) (by omega) (fun q a c => by omega)
  · refine tz_iconst (pc := 7) dX12_termOf_7 ?_
    exact tz_iret (pc := 8) (z := 0) dX12_termOf_8 rfl (Nat.le_of_ble_eq_true rfl) (Nat.le_of_ble_eq_true rfl) ⟨Nat.le_refl _, Nat.le_add_right _ _⟩ ⟨_, rfl, (by decide), ⟨m, MG.rf hM, by omega⟩⟩

set_option maxHeartbeats 4000000 in
set_option maxRecDepth 100000 in
theorem m_tu2 {l : Launch} {G : tb_G} (hl : l.stackTraces = false) (n : Nat) (J : zJ) (h : Int) (x : Int) (y : Int) (w : Int) (hr_h : -2147483648 ≤ h ∧ h < 2147483648) (hr_x : -2147483648 ≤ x ∧ x < 2147483648) (hr_y : -2147483648 ≤ y ∧ y < 2147483648) (hr_w : -2147483648 ≤ w ∧ w < 2147483648) (b r d s m : Int) (hM : MS J b r d s m) (hh : -8 ≤ h ∧ h < s) (hk : 0 ≤ h ∧ J 170 (d + h) = 2) (hu : J 164 21 = 0 ∨ 0 < m) (hg : (0 < (2 : Int) → 0 ≤ x ∧ x < m) ∧ (1 < (2 : Int) → 0 ≤ y ∧ y < m) ∧ (2 < (2 : Int) → 0 ≤ w ∧ w < m)) : tz_Ok l G M_X12_termOf 2 0 0 [.ref 164, zi h, zi x, zi y, zi w] n J (zqi (fun z J' => ∃ m', MG [] [] (fun _ => false) J' J b r d s m m' ∧ 0 ≤ z ∧ z < m')) zN := by
  refine tz_Ok.of hl (by decide +kernel) rfl (tb_c1 rfl) (Nat.le_of_ble_eq_true rfl) ?_
  show tz_At l G M_X12_termOf (tb_rm 2 0 0) none (tb_ZM G 0 0 (zQ n 0 (zqi (fun z J' => ∃ m', MG [] [] (fun _ => false) J' J b r d s m m' ∧ 0 ≤ z ∧ z < m'))) (zX n 0 zN)) 0 0 n J 0 [some (.ref 164), some (zi h), some (zi x), some (zi y), some (zi w), none, none, none] []
  obtain ⟨hM1, hM2, hM3, hM4, hM5, hM6⟩ := id hM
  have hT := hM.told
  refine tz_aload_n (pc := 0) dX12_termOf_0 rfl rfl ?_
  refine tz_fI (pc := 1) (kz := 21) (v := (J 164 21)) dX12_termOf_1 fl_X12_92 i_164_21 rfl rfl (fun r_1 => ?_)
  refine tz_if_eq (pc := 4) (tgt := 9) dX12_termOf_4 (by decide) (by omega) (fun h_4 => ?_) (fun h_4 => ?_)
  · refine tz_iload_n (pc := 9) dX12_termOf_9 rfl rfl ?_
    refine tz_if_geT (pc := 10) (tgt := 17) (by omega) dX12_termOf_10 (by decide) (by omega) ?_
    refine tz_aload_n (pc := 17) dX12_termOf_17 rfl rfl ?_
    refine tz_fR (pc := 18) dX12_termOf_18 fl_X12_25 r_164_5 ?_
    refine tz_aload_n (pc := 21) dX12_termOf_21 rfl rfl ?_
    refine tz_fI (pc := 22) (kz := 17) (v := d) dX12_termOf_22 fl_X12_82 i_164_17 rfl hM4 (fun r_22 => ?_)
    refine tz_iload_n (pc := 25) dX12_termOf_25 rfl rfl ?_
    refine tz_iadd (pc := 26) (v := d + h) dX12_termOf_26 rfl ?_
    refine tz_aL (pc := 27) (z := (d + h)) (v := 2) dX12_termOf_27 a_170 rfl (by omega) hk.2 (fun _ => ?_)
    refine tz_istore (pc := 28) (L2 := [_, _, _, _, _, _, _, _]) dX12_termOf_28 (by decide) rfl ?_
    refine tz_iconst (pc := 30) dX12_termOf_30 ?_
    refine tz_istore (pc := 31) (L2 := [_, _, _, _, _, _, _, _]) dX12_termOf_31 (by decide) rfl ?_
    have loop33 : ∀ (f9 : Nat) (t : Int), ((m - t).toNat) < f9 → (0 ≤ t ∧ t ≤ m) → (∀ q, 0 ≤ q → q < t → ¬ (J 166 (b + q) = h ∧ (0 < (2 : Int) → J 167 (3 * (b + q) + 0) = x) ∧ (1 < (2 : Int) → J 167 (3 * (b + q) + 1) = y) ∧ (2 < (2 : Int) → J 167 (3 * (b + q) + 2) = w))) → tz_At l G M_X12_termOf (tb_rm 2 0 0) none (tb_ZM G 0 0 (zQ n 0 (zqi (fun z J' => ∃ m', MG [] [] (fun _ => false) J' J b r d s m m' ∧ 0 ≤ z ∧ z < m'))) (zX n 0 zN)) 0 0 n J 33 [some (.ref 164), some (zi h), some (zi x), some (zi y), some (zi w), some (zi 2), some (zi t), none] [] := by
      intro f9
      induction f9 with
      | zero => intro t hm9; exact absurd hm9 (Nat.not_lt_zero _)
      | succ f9 ih33 =>
        intro t hm33 hq hn
        refine tz_iload (pc := 33) dX12_termOf_33 rfl ?_
        refine tz_aload_n (pc := 35) dX12_termOf_35 rfl rfl ?_
        refine tz_cV (pc := 36) (m_many hl n _ b r d s m hM) vl_X12_96 dX12_termOf_36 o_164 rfl rfl (Nat.le_of_ble_eq_true rfl) ⟨(Nat.le_of_ble_eq_true rfl), (Nat.le_of_ble_eq_true rfl)⟩ rfl rfl (Nat.le_of_ble_eq_true rfl) (Nat.le_of_ble_eq_true rfl) (fun r9 J_36 hq9 => ?_)
        obtain ⟨z_36, rfl, hz_36, rfl, rfl⟩ := hq9
        refine tz_icmp_ge (pc := 39) (tgt := 67) dX12_termOf_39 (by decide) (by omega) (by omega) (fun h_39 => ?_) (fun h_39 => ?_)
        · have hz0 := hM.ar (t := x) (by omega)
          have hz1 := hM.ar (t := y) (by omega)
          refine tz_iconst (pc := 67) dX12_termOf_67 ?_
          refine tz_istore (pc := 68) (L2 := [_, _, _, _, _, _, _, _]) dX12_termOf_68 (by decide) rfl ?_
          refine tz_iload (pc := 70) dX12_termOf_70 rfl ?_
          refine tz_if_leF (pc := 72) (tgt := 95) (by decide) dX12_termOf_72 (by decide) (by decide) ?_
          refine tz_iload (pc := 75) dX12_termOf_75 rfl ?_
          refine tz_aload_n (pc := 77) dX12_termOf_77 rfl rfl ?_
          refine tz_fR (pc := 78) dX12_termOf_78 fl_X12_19 r_164_3 ?_
          refine tz_aload_n (pc := 81) dX12_termOf_81 rfl rfl ?_
          refine tz_fI (pc := 82) (kz := 15) (v := b) dX12_termOf_82 fl_X12_71 i_164_15 rfl hM2 (fun r_82 => ?_)
          refine tz_iload_n (pc := 85) dX12_termOf_85 rfl rfl ?_
          refine tz_iadd (pc := 86) (v := b + x) dX12_termOf_86 rfl ?_
          refine tz_aL (pc := 87) (z := (b + x)) (v := (J 168 (b + x))) dX12_termOf_87 a_168 rfl (by omega) rfl (fun r_87 => ?_)
          refine tz_iconst (pc := 88) dX12_termOf_88 ?_
          refine tz_iadd (pc := 89) (v := (J 168 (b + x)) + 1) dX12_termOf_89 rfl ?_
          refine tz_cS (pc := 90) (zm_greater hl n _ _ _ (by decide) (by omega)) sl_X12_104 dX12_termOf_90 rfl rfl (Nat.le_of_ble_eq_true rfl) ⟨(Nat.le_of_ble_eq_true rfl), (Nat.le_of_ble_eq_true rfl)⟩ rfl rfl (Nat.le_of_ble_eq_true rfl) (Nat.le_of_ble_eq_true rfl) (fun r9 J_90 hq9 => ?_)
          obtain ⟨z_90, rfl, hz_90, rfl, hg_90⟩ := hq9
          have gz_90 : (1 ≤ z_90 ∧ ((J 168 (b + x)) + 1) ≤ z_90) ∧ (z_90 = 1 ∨ z_90 = ((J 168 (b + x)) + 1)) := by rw [← hg_90]; split <;> omega
          refine tz_istore (pc := 93) (L2 := [_, _, _, _, _, _, _, _]) dX12_termOf_93 (by decide) rfl ?_
          refine tz_iload (pc := 95) dX12_termOf_95 rfl ?_
          refine tz_iconst (pc := 97) dX12_termOf_97 ?_
          refine tz_icmp_leF (pc := 98) (tgt := 121) (by decide) dX12_termOf_98 (by decide) (by decide) (by decide) ?_
          refine tz_iload (pc := 101) dX12_termOf_101 rfl ?_
          refine tz_aload_n (pc := 103) dX12_termOf_103 rfl rfl ?_
          refine tz_fR (pc := 104) dX12_termOf_104 fl_X12_19 r_164_3 ?_
          refine tz_aload_n (pc := 107) dX12_termOf_107 rfl rfl ?_
          refine tz_fI (pc := 108) (kz := 15) (v := b) dX12_termOf_108 fl_X12_71 i_164_15 rfl hM2 (fun r_108 => ?_)
          refine tz_iload_n (pc := 111) dX12_termOf_111 rfl rfl ?_
          refine tz_iadd (pc := 112) (v := b + y) dX12_termOf_112 rfl ?_
          refine tz_aL (pc := 113) (z := (b + y)) (v := (J 168 (b + y))) dX12_termOf_113 a_168 rfl (by omega) rfl (fun r_113 => ?_)
          refine tz_iconst (pc := 114) dX12_termOf_114 ?_
          refine tz_iadd (pc := 115) (v := (J 168 (b + y)) + 1) dX12_termOf_115 rfl ?_
          refine tz_cS (pc := 116) (zm_greater hl n _ _ _ (by omega) (by omega)) sl_X12_104 dX12_termOf_116 rfl rfl (Nat.le_of_ble_eq_true rfl) ⟨(Nat.le_of_ble_eq_true rfl), (Nat.le_of_ble_eq_true rfl)⟩ rfl rfl (Nat.le_of_ble_eq_true rfl) (Nat.le_of_ble_eq_true rfl) (fun r9 J_116 hq9 => ?_)
          obtain ⟨z_116, rfl, hz_116, rfl, hg_116⟩ := hq9
          have gz_116 : (z_90 ≤ z_116 ∧ ((J 168 (b + y)) + 1) ≤ z_116) ∧ (z_116 = z_90 ∨ z_116 = ((J 168 (b + y)) + 1)) := by rw [← hg_116]; split <;> omega
          refine tz_istore (pc := 119) (L2 := [_, _, _, _, _, _, _, _]) dX12_termOf_119 (by decide) rfl ?_
          refine tz_iload (pc := 121) dX12_termOf_121 rfl ?_
          refine tz_iconst (pc := 123) dX12_termOf_123 ?_
          refine tz_icmp_leT (pc := 124) (tgt := 148) (by decide) dX12_termOf_124 (by decide) (by decide) (by decide) ?_
          refine tz_aload_n (pc := 148) dX12_termOf_148 rfl rfl ?_
          refine tz_iload (pc := 149) dX12_termOf_149 rfl ?_
          refine tz_bipush (pc := 151) dX12_termOf_151 (by decide) ?_
          refine tz_icmp_gt (pc := 153) (tgt := 166) dX12_termOf_153 (by decide) (by omega) (by decide) (fun h_153 => ?_) (fun h_153 => ?_)
          · refine tz_iconst (pc := 166) dX12_termOf_166 ?_
            refine tz_goto (pc := 167) (tgt := 171) dX12_termOf_167 (by decide) ?_
            refine tz_pZ (pc := 171) (kz := 21) dX12_termOf_171 fl_X12_92 i_164_21 rfl rfl (Or.inr rfl) ?_
            refine tz_aload_n (pc := 174) dX12_termOf_174 rfl rfl ?_
            refine tz_fI (pc := 175) (kz := 21) (v := 1) dX12_termOf_175 fl_X12_92 i_164_21 rfl rfl (fun _ => ?_)
            refine tz_if_eqF (pc := 178) (tgt := 183) (by decide) dX12_termOf_178 (by decide) (by decide) ?_
            refine tz_iconst (pc := 181) dX12_termOf_181 ?_
            exact tz_iret (pc := 182) (z := 0) dX12_termOf_182 rfl (Nat.le_of_ble_eq_true rfl) (Nat.le_of_ble_eq_true rfl) ⟨Nat.le_refl _, Nat.le_add_right _ _⟩ ⟨_, rfl, (by decide), ⟨m, (MG.rf hM).full (fun q => absurd q (by decide)), by omega⟩⟩
          · refine tz_aload_n (pc := 156) dX12_termOf_156 rfl rfl ?_
            refine tz_cV (pc := 157) (m_many hl n _ b r d s m hM) vl_X12_96 dX12_termOf_157 o_164 rfl rfl (Nat.le_of_ble_eq_true rfl) ⟨(Nat.le_of_ble_eq_true rfl), (Nat.le_of_ble_eq_true rfl)⟩ rfl rfl (Nat.le_of_ble_eq_true rfl) (Nat.le_of_ble_eq_true rfl) (fun r9 J_157 hq9 => ?_)
            obtain ⟨z_157, rfl, hz_157, rfl, rfl⟩ := hq9
            refine tz_sipush (pc := 160) dX12_termOf_160 (by decide) ?_
            refine tz_icmp_ne (pc := 163) (tgt := 170) dX12_termOf_163 (by decide) (by omega) (by decide) (fun h_163 => ?_) (fun h_163 => ?_)
            · refine tz_iconst (pc := 170) dX12_termOf_170 ?_
              refine tz_pZ (pc := 171) (kz := 21) dX12_termOf_171 fl_X12_92 i_164_21 rfl rfl (Or.inl rfl) ?_
              refine tz_aload_n (pc := 174) dX12_termOf_174 rfl rfl ?_
              refine tz_fI (pc := 175) (kz := 21) (v := 0) dX12_termOf_175 fl_X12_92 i_164_21 rfl rfl (fun _ => ?_)
              refine tz_if_eqT (pc := 178) (tgt := 183) (by decide) dX12_termOf_178 (by decide) (by decide) ?_
              refine tz_aload_n (pc := 183) dX12_termOf_183 rfl rfl ?_
              refine tz_cV (pc := 184) (m_many hl n _ b r d s m (hM.of ⟨zup_ne (by decide), zup_ne (by decide), zup_ne (by decide)⟩ rfl rfl rfl rfl rfl)) vl_X12_96 dX12_termOf_184 o_164 rfl rfl (Nat.le_of_ble_eq_true rfl) ⟨(Nat.le_of_ble_eq_true rfl), (Nat.le_of_ble_eq_true rfl)⟩ rfl rfl (Nat.le_of_ble_eq_true rfl) (Nat.le_of_ble_eq_true rfl) (fun r9 J_184 hq9 => ?_)
              obtain ⟨z_184, rfl, hz_184, rfl, rfl⟩ := hq9
              refine tz_istore (pc := 187) (L2 := [_, _, _, _, _, _, _, _]) dX12_termOf_187 (by decide) rfl ?_
              refine tz_aload_n (pc := 189) dX12_termOf_189 rfl rfl ?_
              refine tz_fR (pc := 190) dX12_termOf_190 fl_X12_13 r_164_1 ?_
              refine tz_aload_n (pc := 193) dX12_termOf_193 rfl rfl ?_
              refine tz_fI (pc := 194) (kz := 15) (v := b) dX12_termOf_194 fl_X12_71 i_164_15 rfl hM2 (fun r_194 => ?_)
              refine tz_iload (pc := 197) dX12_termOf_197 rfl ?_
              refine tz_iadd (pc := 199) (v := b + m) dX12_termOf_199 rfl ?_
              refine tz_iload_n (pc := 200) dX12_termOf_200 rfl rfl ?_
              refine tz_aS (pc := 201) (z := (b + m)) dX12_termOf_201 a_166 rfl (by omega) (by omega) ?_
              refine tz_aload_n (pc := 202) dX12_termOf_202 rfl rfl ?_
              refine tz_fR (pc := 203) dX12_termOf_203 fl_X12_16 r_164_2 ?_
              refine tz_iconst (pc := 206) dX12_termOf_206 ?_
              refine tz_aload_n (pc := 207) dX12_termOf_207 rfl rfl ?_
              refine tz_fI (pc := 208) (kz := 15) (v := b) dX12_termOf_208 fl_X12_71 i_164_15 rfl hM2 (fun r_208 => ?_)
              refine tz_iload (pc := 211) dX12_termOf_211 rfl ?_
              refine tz_iadd (pc := 213) (v := b + m) dX12_termOf_213 rfl ?_
              refine tz_imul (pc := 214) (v := 3 * (b + m)) dX12_termOf_214 rfl ?_
              refine tz_iload (pc := 215) dX12_termOf_215 rfl ?_
              refine tz_if_leF (pc := 217) (tgt := 224) (by decide) dX12_termOf_217 (by decide) (by decide) ?_
              refine tz_iload_n (pc := 220) dX12_termOf_220 rfl rfl ?_
              refine tz_goto (pc := 221) (tgt := 225) dX12_termOf_221 (by decide) ?_
              refine tz_aS (pc := 225) (z := (3 * (b + m))) dX12_termOf_225 a_167 rfl (by omega) (by omega) ?_
              refine tz_aload_n (pc := 226) dX12_termOf_226 rfl rfl ?_
              refine tz_fR (pc := 227) dX12_termOf_227 fl_X12_16 r_164_2 ?_
              refine tz_iconst (pc := 230) dX12_termOf_230 ?_
              refine tz_aload_n (pc := 231) dX12_termOf_231 rfl rfl ?_
              refine tz_fI (pc := 232) (kz := 15) (v := b) dX12_termOf_232 fl_X12_71 i_164_15 rfl hM2 (fun r_232 => ?_)
              refine tz_iload (pc := 235) dX12_termOf_235 rfl ?_
              refine tz_iadd (pc := 237) (v := b + m) dX12_termOf_237 rfl ?_
              refine tz_imul (pc := 238) (v := 3 * (b + m)) dX12_termOf_238 rfl ?_
              refine tz_iconst (pc := 239) dX12_termOf_239 ?_
              refine tz_iadd (pc := 240) (v := (3 * (b + m)) + 1) dX12_termOf_240 rfl ?_
              refine tz_iload (pc := 241) dX12_termOf_241 rfl ?_
              refine tz_iconst (pc := 243) dX12_termOf_243 ?_
              refine tz_icmp_leF (pc := 244) (tgt := 251) (by decide) dX12_termOf_244 (by decide) (by decide) (by decide) ?_
              refine tz_iload_n (pc := 247) dX12_termOf_247 rfl rfl ?_
              refine tz_goto (pc := 248) (tgt := 252) dX12_termOf_248 (by decide) ?_
              refine tz_aS (pc := 252) (z := ((3 * (b + m)) + 1)) dX12_termOf_252 a_167 rfl (by omega) (by omega) ?_
              refine tz_aload_n (pc := 253) dX12_termOf_253 rfl rfl ?_
              refine tz_fR (pc := 254) dX12_termOf_254 fl_X12_16 r_164_2 ?_
              refine tz_iconst (pc := 257) dX12_termOf_257 ?_
              refine tz_aload_n (pc := 258) dX12_termOf_258 rfl rfl ?_
              refine tz_fI (pc := 259) (kz := 15) (v := b) dX12_termOf_259 fl_X12_71 i_164_15 rfl hM2 (fun r_259 => ?_)
              refine tz_iload (pc := 262) dX12_termOf_262 rfl ?_
              refine tz_iadd (pc := 264) (v := b + m) dX12_termOf_264 rfl ?_
              refine tz_imul (pc := 265) (v := 3 * (b + m)) dX12_termOf_265 rfl ?_
              refine tz_iconst (pc := 266) dX12_termOf_266 ?_
              refine tz_iadd (pc := 267) (v := (3 * (b + m)) + 2) dX12_termOf_267 rfl ?_
              refine tz_iload (pc := 268) dX12_termOf_268 rfl ?_
              refine tz_iconst (pc := 270) dX12_termOf_270 ?_
              refine tz_icmp_leT (pc := 271) (tgt := 279) (by decide) dX12_termOf_271 (by decide) (by decide) (by decide) ?_
              refine tz_iconst (pc := 279) dX12_termOf_279 ?_
              refine tz_aS (pc := 280) (z := ((3 * (b + m)) + 2)) dX12_termOf_280 a_167 rfl (by omega) (by decide) ?_
              refine tz_aload_n (pc := 281) dX12_termOf_281 rfl rfl ?_
              refine tz_fR (pc := 282) dX12_termOf_282 fl_X12_19 r_164_3 ?_
              refine tz_aload_n (pc := 285) dX12_termOf_285 rfl rfl ?_
              refine tz_fI (pc := 286) (kz := 15) (v := b) dX12_termOf_286 fl_X12_71 i_164_15 rfl hM2 (fun r_286 => ?_)
              refine tz_iload (pc := 289) dX12_termOf_289 rfl ?_
              refine tz_iadd (pc := 291) (v := b + m) dX12_termOf_291 rfl ?_
              refine tz_iload (pc := 292) dX12_termOf_292 rfl ?_
              refine tz_aS (pc := 294) (z := (b + m)) dX12_termOf_294 a_168 rfl (by omega) (by omega) ?_
              refine tz_aload_n (pc := 295) dX12_termOf_295 rfl rfl ?_
              refine tz_fR (pc := 296) dX12_termOf_296 fl_X12_9 r_164_0 ?_
              refine tz_aload_n (pc := 299) dX12_termOf_299 rfl rfl ?_
              refine tz_fI (pc := 300) (kz := 16) (v := r) dX12_termOf_300 fl_X12_85 i_164_16 rfl hM3 (fun r_300 => ?_)
              refine tz_iconst (pc := 303) dX12_termOf_303 ?_
              refine tz_iadd (pc := 304) (v := r) dX12_termOf_304 (Int.add_zero _) ?_
              refine tz_dup2 (pc := 305) dX12_termOf_305 rfl rfl ?_
              refine tz_aL (pc := 306) (z := r) (v := m) dX12_termOf_306 a_165 rfl (by omega) hM5 (fun r_306 => ?_)
              refine tz_iconst (pc := 307) dX12_termOf_307 ?_
              refine tz_iadd (pc := 308) (v := m + 1) dX12_termOf_308 rfl ?_
              refine tz_aS (pc := 309) (z := r) dX12_termOf_309 a_165 rfl (by omega) (by omega) ?_
              refine tz_iload (pc := 310) dX12_termOf_310 rfl ?_
              exact tz_iret (pc := 312) (z := m) dX12_termOf_312 rfl (Nat.le_of_ble_eq_true rfl) (Nat.le_of_ble_eq_true rfl) ⟨Nat.le_refl _, Nat.le_add_right _ _⟩ ⟨_, rfl, (by omega), ⟨m + 1, hM.push (A := 2) (x := x) (y := y) (w := w) (by omega) hh (by unfold arh; rw [if_neg (by omega)]; exact hk.2) (by decide) (fun _ => ⟨rfl, by omega, by omega⟩) (fun _ => ⟨rfl, by omega, by omega⟩) (fun g => absurd g (by decide)) (fun q a c => hn q a (by omega)) (by omega) (by omega) h_4, by omega⟩⟩
            · refine tz_iconst (pc := 166) dX12_termOf_166 ?_
              refine tz_goto (pc := 167) (tgt := 171) dX12_termOf_167 (by decide) ?_
              refine tz_pZ (pc := 171) (kz := 21) dX12_termOf_171 fl_X12_92 i_164_21 rfl rfl (Or.inr rfl) ?_
              refine tz_aload_n (pc := 174) dX12_termOf_174 rfl rfl ?_
              refine tz_fI (pc := 175) (kz := 21) (v := 1) dX12_termOf_175 fl_X12_92 i_164_21 rfl rfl (fun _ => ?_)
              refine tz_if_eqF (pc := 178) (tgt := 183) (by decide) dX12_termOf_178 (by decide) (by decide) ?_
              refine tz_iconst (pc := 181) dX12_termOf_181 ?_
              exact tz_iret (pc := 182) (z := 0) dX12_termOf_182 rfl (Nat.le_of_ble_eq_true rfl) (Nat.le_of_ble_eq_true rfl) ⟨Nat.le_refl _, Nat.le_add_right _ _⟩ ⟨_, rfl, (by decide), ⟨m, (MG.rf hM).full (fun q => absurd q (by decide)), by omega⟩⟩
        · refine tz_aload_n (pc := 42) dX12_termOf_42 rfl rfl ?_
          refine tz_iload (pc := 43) dX12_termOf_43 rfl ?_
          refine tz_iload_n (pc := 45) dX12_termOf_45 rfl rfl ?_
          refine tz_iload (pc := 46) dX12_termOf_46 rfl ?_
          refine tz_iload_n (pc := 48) dX12_termOf_48 rfl rfl ?_
          refine tz_iload_n (pc := 49) dX12_termOf_49 rfl rfl ?_
          refine tz_iload (pc := 50) dX12_termOf_50 rfl ?_
          refine tz_cV (pc := 52) (m_isThat hl n _ _ _ _ _ _ _ (by omega) (by omega) (by decide) (by omega) (by omega) (by omega) b r d s m hM (by omega)) vl_X12_100 dX12_termOf_52 o_164 rfl rfl (Nat.le_of_ble_eq_true rfl) ⟨(Nat.le_of_ble_eq_true rfl), (Nat.le_of_ble_eq_true rfl)⟩ rfl rfl (Nat.le_of_ble_eq_true rfl) (Nat.le_of_ble_eq_true rfl) (fun r9 J_52 hq9 => ?_)
          obtain ⟨zi9, rfl, hz_52, rfl, hi1, hi2⟩ := hq9
          refine tz_if_eq (pc := 55) (tgt := 61) dX12_termOf_55 (by decide) (by omega) (fun h_55 => ?_) (fun h_55 => ?_)
          · refine tz_iinc (pc := 61) (z := t + 1) (L2 := [_, _, _, _, _, _, _, _]) dX12_termOf_61 rfl (by omega) rfl ?_
            refine tz_goto (pc := 64) (tgt := 33) dX12_termOf_64 (by decide) ?_
            exact ih33 (t + 1) (by omega) (by omega) (fun q a c => (Decidable.em (q = t)).elim (fun e => by rw [e]; exact fun e9 => by have := hi2.mpr e9; omega) (fun e => hn q a (by omega)))
          · refine tz_iload (pc := 58) dX12_termOf_58 rfl ?_
            exact tz_iret (pc := 60) (z := t) dX12_termOf_60 rfl (Nat.le_of_ble_eq_true rfl) (Nat.le_of_ble_eq_true rfl) ⟨Nat.le_refl _, Nat.le_add_right _ _⟩ ⟨_, rfl, (by omega), ⟨m, MG.rf hM, by omega⟩⟩
    exact loop33 _ 0 (Nat.lt_succ_self _) (by omega) (fun q a c => by omega)
  · refine tz_iconst (pc := 7) dX12_termOf_7 ?_
    exact tz_iret (pc := 8) (z := 0) dX12_termOf_8 rfl (Nat.le_of_ble_eq_true rfl) (Nat.le_of_ble_eq_true rfl) ⟨Nat.le_refl _, Nat.le_add_right _ _⟩ ⟨_, rfl, (by decide), ⟨m, MG.rf hM, by omega⟩⟩

set_option maxHeartbeats 4000000 in
set_option maxRecDepth 100000 in
theorem m_tu3 {l : Launch} {G : tb_G} (hl : l.stackTraces = false) (n : Nat) (J : zJ) (h : Int) (x : Int) (y : Int) (w : Int) (hr_h : -2147483648 ≤ h ∧ h < 2147483648) (hr_x : -2147483648 ≤ x ∧ x < 2147483648) (hr_y : -2147483648 ≤ y ∧ y < 2147483648) (hr_w : -2147483648 ≤ w ∧ w < 2147483648) (b r d s m : Int) (hM : MS J b r d s m) (hh : -8 ≤ h ∧ h < s) (hk : 0 ≤ h ∧ J 170 (d + h) = 3) (hu : J 164 21 = 0 ∨ 0 < m) (hg : (0 < (3 : Int) → 0 ≤ x ∧ x < m) ∧ (1 < (3 : Int) → 0 ≤ y ∧ y < m) ∧ (2 < (3 : Int) → 0 ≤ w ∧ w < m)) : tz_Ok l G M_X12_termOf 2 0 0 [.ref 164, zi h, zi x, zi y, zi w] n J (zqi (fun z J' => ∃ m', MG [] [] (fun _ => false) J' J b r d s m m' ∧ 0 ≤ z ∧ z < m')) zN := by
  refine tz_Ok.of hl (by decide +kernel) rfl (tb_c1 rfl) (Nat.le_of_ble_eq_true rfl) ?_
  show tz_At l G M_X12_termOf (tb_rm 2 0 0) none (tb_ZM G 0 0 (zQ n 0 (zqi (fun z J' => ∃ m', MG [] [] (fun _ => false) J' J b r d s m m' ∧ 0 ≤ z ∧ z < m'))) (zX n 0 zN)) 0 0 n J 0 [some (.ref 164), some (zi h), some (zi x), some (zi y), some (zi w), none, none, none] []
  obtain ⟨hM1, hM2, hM3, hM4, hM5, hM6⟩ := id hM
  have hT := hM.told
  refine tz_aload_n (pc := 0) dX12_termOf_0 rfl rfl ?_
  refine tz_fI (pc := 1) (kz := 21) (v := (J 164 21)) dX12_termOf_1 fl_X12_92 i_164_21 rfl rfl (fun r_1 => ?_)
  refine tz_if_eq (pc := 4) (tgt := 9) dX12_termOf_4 (by decide) (by omega) (fun h_4 => ?_) (fun h_4 => ?_)
  · refine tz_iload_n (pc := 9) dX12_termOf_9 rfl rfl ?_
    refine tz_if_geT (pc := 10) (tgt := 17) (by omega) dX12_termOf_10 (by decide) (by omega) ?_
    refine tz_aload_n (pc := 17) dX12_termOf_17 rfl rfl ?_
    refine tz_fR (pc := 18) dX12_termOf_18 fl_X12_25 r_164_5 ?_
    refine tz_aload_n (pc := 21) dX12_termOf_21 rfl rfl ?_
    refine tz_fI (pc := 22) (kz := 17) (v := d) dX12_termOf_22 fl_X12_82 i_164_17 rfl hM4 (fun r_22 => ?_)
    refine tz_iload_n (pc := 25) dX12_termOf_25 rfl rfl ?_
    refine tz_iadd (pc := 26) (v := d + h) dX12_termOf_26 rfl ?_
    refine tz_aL (pc := 27) (z := (d + h)) (v := 3) dX12_termOf_27 a_170 rfl (by omega) hk.2 (fun _ => ?_)
    refine tz_istore (pc := 28) (L2 := [_, _, _, _, _, _, _, _]) dX12_termOf_28 (by decide) rfl ?_
    refine tz_iconst (pc := 30) dX12_termOf_30 ?_
    refine tz_istore (pc := 31) (L2 := [_, _, _, _, _, _, _, _]) dX12_termOf_31 (by decide) rfl ?_
    have loop33 : ∀ (f9 : Nat) (t : Int), ((m - t).toNat) < f9 → (0 ≤ t ∧ t ≤ m) → (∀ q, 0 ≤ q → q < t → ¬ (J 166 (b + q) = h ∧ (0 < (3 : Int) → J 167 (3 * (b + q) + 0) = x) ∧ (1 < (3 : Int) → J 167 (3 * (b + q) + 1) = y) ∧ (2 < (3 : Int) → J 167 (3 * (b + q) + 2) = w))) → tz_At l G M_X12_termOf (tb_rm 2 0 0) none (tb_ZM G 0 0 (zQ n 0 (zqi (fun z J' => ∃ m', MG [] [] (fun _ => false) J' J b r d s m m' ∧ 0 ≤ z ∧ z < m'))) (zX n 0 zN)) 0 0 n J 33 [some (.ref 164), some (zi h), some (zi x), some (zi y), some (zi w), some (zi 3), some (zi t), none] [] := by
      intro f9
      induction f9 with
      | zero => intro t hm9; exact absurd hm9 (Nat.not_lt_zero _)
      | succ f9 ih33 =>
        intro t hm33 hq hn
        refine tz_iload (pc := 33) dX12_termOf_33 rfl ?_
        refine tz_aload_n (pc := 35) dX12_termOf_35 rfl rfl ?_
        refine tz_cV (pc := 36) (m_many hl n _ b r d s m hM) vl_X12_96 dX12_termOf_36 o_164 rfl rfl (Nat.le_of_ble_eq_true rfl) ⟨(Nat.le_of_ble_eq_true rfl), (Nat.le_of_ble_eq_true rfl)⟩ rfl rfl (Nat.le_of_ble_eq_true rfl) (Nat.le_of_ble_eq_true rfl) (fun r9 J_36 hq9 => ?_)
        obtain ⟨z_36, rfl, hz_36, rfl, rfl⟩ := hq9
        refine tz_icmp_ge (pc := 39) (tgt := 67) dX12_termOf_39 (by decide) (by omega) (by omega) (fun h_39 => ?_) (fun h_39 => ?_)
        · have hz0 := hM.ar (t := x) (by omega)
          have hz1 := hM.ar (t := y) (by omega)
          have hz2 := hM.ar (t := w) (by omega)
          refine tz_iconst (pc := 67) dX12_termOf_67 ?_
          refine tz_istore (pc := 68) (L2 := [_, _, _, _, _, _, _, _]) dX12_termOf_68 (by decide) rfl ?_
          refine tz_iload (pc := 70) dX12_termOf_70 rfl ?_
          refine tz_if_leF (pc := 72) (tgt := 95) (by decide) dX12_termOf_72 (by decide) (by decide) ?_
          refine tz_iload (pc := 75) dX12_termOf_75 rfl ?_
          refine tz_aload_n (pc := 77) dX12_termOf_77 rfl rfl ?_
          refine tz_fR (pc := 78) dX12_termOf_78 fl_X12_19 r_164_3 ?_
          refine tz_aload_n (pc := 81) dX12_termOf_81 rfl rfl ?_
          refine tz_fI (pc := 82) (kz := 15) (v := b) dX12_termOf_82 fl_X12_71 i_164_15 rfl hM2 (fun r_82 => ?_)
          refine tz_iload_n (pc := 85) dX12_termOf_85 rfl rfl ?_
          refine tz_iadd (pc := 86) (v := b + x) dX12_termOf_86 rfl ?_
          refine tz_aL (pc := 87) (z := (b + x)) (v := (J 168 (b + x))) dX12_termOf_87 a_168 rfl (by omega) rfl (fun r_87 => ?_)
          refine tz_iconst (pc := 88) dX12_termOf_88 ?_
          refine tz_iadd (pc := 89) (v := (J 168 (b + x)) + 1) dX12_termOf_89 rfl ?_
          refine tz_cS (pc := 90) (zm_greater hl n _ _ _ (by decide) (by omega)) sl_X12_104 dX12_termOf_90 rfl rfl (Nat.le_of_ble_eq_true rfl) ⟨(Nat.le_of_ble_eq_true rfl), (Nat.le_of_ble_eq_true rfl)⟩ rfl rfl (Nat.le_of_ble_eq_true rfl) (Nat.le_of_ble_eq_true rfl) (fun r9 J_90 hq9 => ?_)
          obtain ⟨z_90, rfl, hz_90, rfl, hg_90⟩ := hq9
          have gz_90 : (1 ≤ z_90 ∧ ((J 168 (b + x)) + 1) ≤ z_90) ∧ (z_90 = 1 ∨ z_90 = ((J 168 (b + x)) + 1)) := by rw [← hg_90]; split <;> omega
          refine tz_istore (pc := 93) (L2 := [_, _, _, _, _, _, _, _]) dX12_termOf_93 (by decide) rfl ?_
          refine tz_iload (pc := 95) dX12_termOf_95 rfl ?_
          refine tz_iconst (pc := 97) dX12_termOf_97 ?_
          refine tz_icmp_leF (pc := 98) (tgt := 121) (by decide) dX12_termOf_98 (by decide) (by decide) (by decide) ?_
          refine tz_iload (pc := 101) dX12_termOf_101 rfl ?_
          refine tz_aload_n (pc := 103) dX12_termOf_103 rfl rfl ?_
          refine tz_fR (pc := 104) dX12_termOf_104 fl_X12_19 r_164_3 ?_
          refine tz_aload_n (pc := 107) dX12_termOf_107 rfl rfl ?_
          refine tz_fI (pc := 108) (kz := 15) (v := b) dX12_termOf_108 fl_X12_71 i_164_15 rfl hM2 (fun r_108 => ?_)
          refine tz_iload_n (pc := 111) dX12_termOf_111 rfl rfl ?_
          refine tz_iadd (pc := 112) (v := b + y) dX12_termOf_112 rfl ?_
          refine tz_aL (pc := 113) (z := (b + y)) (v := (J 168 (b + y))) dX12_termOf_113 a_168 rfl (by omega) rfl (fun r_113 => ?_)
          refine tz_iconst (pc := 114) dX12_termOf_114 ?_
          refine tz_iadd (pc := 115) (v := (J 168 (b + y)) + 1) dX12_termOf_115 rfl ?_
          refine tz_cS (pc := 116) (zm_greater hl n _ _ _ (by omega) (by omega)) sl_X12_104 dX12_termOf_116 rfl rfl (Nat.le_of_ble_eq_true rfl) ⟨(Nat.le_of_ble_eq_true rfl), (Nat.le_of_ble_eq_true rfl)⟩ rfl rfl (Nat.le_of_ble_eq_true rfl) (Nat.le_of_ble_eq_true rfl) (fun r9 J_116 hq9 => ?_)
          obtain ⟨z_116, rfl, hz_116, rfl, hg_116⟩ := hq9
          have gz_116 : (z_90 ≤ z_116 ∧ ((J 168 (b + y)) + 1) ≤ z_116) ∧ (z_116 = z_90 ∨ z_116 = ((J 168 (b + y)) + 1)) := by rw [← hg_116]; split <;> omega
          refine tz_istore (pc := 119) (L2 := [_, _, _, _, _, _, _, _]) dX12_termOf_119 (by decide) rfl ?_
          refine tz_iload (pc := 121) dX12_termOf_121 rfl ?_
          refine tz_iconst (pc := 123) dX12_termOf_123 ?_
          refine tz_icmp_leF (pc := 124) (tgt := 148) (by decide) dX12_termOf_124 (by decide) (by decide) (by decide) ?_
          refine tz_iload (pc := 127) dX12_termOf_127 rfl ?_
          refine tz_aload_n (pc := 129) dX12_termOf_129 rfl rfl ?_
          refine tz_fR (pc := 130) dX12_termOf_130 fl_X12_19 r_164_3 ?_
          refine tz_aload_n (pc := 133) dX12_termOf_133 rfl rfl ?_
          refine tz_fI (pc := 134) (kz := 15) (v := b) dX12_termOf_134 fl_X12_71 i_164_15 rfl hM2 (fun r_134 => ?_)
          refine tz_iload (pc := 137) dX12_termOf_137 rfl ?_
          refine tz_iadd (pc := 139) (v := b + w) dX12_termOf_139 rfl ?_
          refine tz_aL (pc := 140) (z := (b + w)) (v := (J 168 (b + w))) dX12_termOf_140 a_168 rfl (by omega) rfl (fun r_140 => ?_)
          refine tz_iconst (pc := 141) dX12_termOf_141 ?_
          refine tz_iadd (pc := 142) (v := (J 168 (b + w)) + 1) dX12_termOf_142 rfl ?_
          refine tz_cS (pc := 143) (zm_greater hl n _ _ _ (by omega) (by omega)) sl_X12_104 dX12_termOf_143 rfl rfl (Nat.le_of_ble_eq_true rfl) ⟨(Nat.le_of_ble_eq_true rfl), (Nat.le_of_ble_eq_true rfl)⟩ rfl rfl (Nat.le_of_ble_eq_true rfl) (Nat.le_of_ble_eq_true rfl) (fun r9 J_143 hq9 => ?_)
          obtain ⟨z_143, rfl, hz_143, rfl, hg_143⟩ := hq9
          have gz_143 : (z_116 ≤ z_143 ∧ ((J 168 (b + w)) + 1) ≤ z_143) ∧ (z_143 = z_116 ∨ z_143 = ((J 168 (b + w)) + 1)) := by rw [← hg_143]; split <;> omega
          refine tz_istore (pc := 146) (L2 := [_, _, _, _, _, _, _, _]) dX12_termOf_146 (by decide) rfl ?_
          refine tz_aload_n (pc := 148) dX12_termOf_148 rfl rfl ?_
          refine tz_iload (pc := 149) dX12_termOf_149 rfl ?_
          refine tz_bipush (pc := 151) dX12_termOf_151 (by decide) ?_
          refine tz_icmp_gt (pc := 153) (tgt := 166) dX12_termOf_153 (by decide) (by omega) (by decide) (fun h_153 => ?_) (fun h_153 => ?_)
          · refine tz_iconst (pc := 166) dX12_termOf_166 ?_
            refine tz_goto (pc := 167) (tgt := 171) dX12_termOf_167 (by decide) ?_
            refine tz_pZ (pc := 171) (kz := 21) dX12_termOf_171 fl_X12_92 i_164_21 rfl rfl (Or.inr rfl) ?_
            refine tz_aload_n (pc := 174) dX12_termOf_174 rfl rfl ?_
            refine tz_fI (pc := 175) (kz := 21) (v := 1) dX12_termOf_175 fl_X12_92 i_164_21 rfl rfl (fun _ => ?_)
            refine tz_if_eqF (pc := 178) (tgt := 183) (by decide) dX12_termOf_178 (by decide) (by decide) ?_
            refine tz_iconst (pc := 181) dX12_termOf_181 ?_
            exact tz_iret (pc := 182) (z := 0) dX12_termOf_182 rfl (Nat.le_of_ble_eq_true rfl) (Nat.le_of_ble_eq_true rfl) ⟨Nat.le_refl _, Nat.le_add_right _ _⟩ ⟨_, rfl, (by decide), ⟨m, (MG.rf hM).full (fun q => absurd q (by decide)), by omega⟩⟩
          · refine tz_aload_n (pc := 156) dX12_termOf_156 rfl rfl ?_
            refine tz_cV (pc := 157) (m_many hl n _ b r d s m hM) vl_X12_96 dX12_termOf_157 o_164 rfl rfl (Nat.le_of_ble_eq_true rfl) ⟨(Nat.le_of_ble_eq_true rfl), (Nat.le_of_ble_eq_true rfl)⟩ rfl rfl (Nat.le_of_ble_eq_true rfl) (Nat.le_of_ble_eq_true rfl) (fun r9 J_157 hq9 => ?_)
            obtain ⟨z_157, rfl, hz_157, rfl, rfl⟩ := hq9
            refine tz_sipush (pc := 160) dX12_termOf_160 (by decide) ?_
            refine tz_icmp_ne (pc := 163) (tgt := 170) dX12_termOf_163 (by decide) (by omega) (by decide) (fun h_163 => ?_) (fun h_163 => ?_)
            · refine tz_iconst (pc := 170) dX12_termOf_170 ?_
              refine tz_pZ (pc := 171) (kz := 21) dX12_termOf_171 fl_X12_92 i_164_21 rfl rfl (Or.inl rfl) ?_
              refine tz_aload_n (pc := 174) dX12_termOf_174 rfl rfl ?_
              refine tz_fI (pc := 175) (kz := 21) (v := 0) dX12_termOf_175 fl_X12_92 i_164_21 rfl rfl (fun _ => ?_)
              refine tz_if_eqT (pc := 178) (tgt := 183) (by decide) dX12_termOf_178 (by decide) (by decide) ?_
              refine tz_aload_n (pc := 183) dX12_termOf_183 rfl rfl ?_
              refine tz_cV (pc := 184) (m_many hl n _ b r d s m (hM.of ⟨zup_ne (by decide), zup_ne (by decide), zup_ne (by decide)⟩ rfl rfl rfl rfl rfl)) vl_X12_96 dX12_termOf_184 o_164 rfl rfl (Nat.le_of_ble_eq_true rfl) ⟨(Nat.le_of_ble_eq_true rfl), (Nat.le_of_ble_eq_true rfl)⟩ rfl rfl (Nat.le_of_ble_eq_true rfl) (Nat.le_of_ble_eq_true rfl) (fun r9 J_184 hq9 => ?_)
              obtain ⟨z_184, rfl, hz_184, rfl, rfl⟩ := hq9
              refine tz_istore (pc := 187) (L2 := [_, _, _, _, _, _, _, _]) dX12_termOf_187 (by decide) rfl ?_
              refine tz_aload_n (pc := 189) dX12_termOf_189 rfl rfl ?_
              refine tz_fR (pc := 190) dX12_termOf_190 fl_X12_13 r_164_1 ?_
              refine tz_aload_n (pc := 193) dX12_termOf_193 rfl rfl ?_
              refine tz_fI (pc := 194) (kz := 15) (v := b) dX12_termOf_194 fl_X12_71 i_164_15 rfl hM2 (fun r_194 => ?_)
              refine tz_iload (pc := 197) dX12_termOf_197 rfl ?_
              refine tz_iadd (pc := 199) (v := b + m) dX12_termOf_199 rfl ?_
              refine tz_iload_n (pc := 200) dX12_termOf_200 rfl rfl ?_
              refine tz_aS (pc := 201) (z := (b + m)) dX12_termOf_201 a_166 rfl (by omega) (by omega) ?_
              refine tz_aload_n (pc := 202) dX12_termOf_202 rfl rfl ?_
              refine tz_fR (pc := 203) dX12_termOf_203 fl_X12_16 r_164_2 ?_
              refine tz_iconst (pc := 206) dX12_termOf_206 ?_
              refine tz_aload_n (pc := 207) dX12_termOf_207 rfl rfl ?_
              refine tz_fI (pc := 208) (kz := 15) (v := b) dX12_termOf_208 fl_X12_71 i_164_15 rfl hM2 (fun r_208 => ?_)
              refine tz_iload (pc := 211) dX12_termOf_211 rfl ?_
              refine tz_iadd (pc := 213) (v := b + m) dX12_termOf_213 rfl ?_
              refine tz_imul (pc := 214) (v := 3 * (b + m)) dX12_termOf_214 rfl ?_
              refine tz_iload (pc := 215) dX12_termOf_215 rfl ?_
              refine tz_if_leF (pc := 217) (tgt := 224) (by decide) dX12_termOf_217 (by decide) (by decide) ?_
              refine tz_iload_n (pc := 220) dX12_termOf_220 rfl rfl ?_
              refine tz_goto (pc := 221) (tgt := 225) dX12_termOf_221 (by decide) ?_
              refine tz_aS (pc := 225) (z := (3 * (b + m))) dX12_termOf_225 a_167 rfl (by omega) (by omega) ?_
              refine tz_aload_n (pc := 226) dX12_termOf_226 rfl rfl ?_
              refine tz_fR (pc := 227) dX12_termOf_227 fl_X12_16 r_164_2 ?_
              refine tz_iconst (pc := 230) dX12_termOf_230 ?_
              refine tz_aload_n (pc := 231) dX12_termOf_231 rfl rfl ?_
              refine tz_fI (pc := 232) (kz := 15) (v := b) dX12_termOf_232 fl_X12_71 i_164_15 rfl hM2 (fun r_232 => ?_)
              refine tz_iload (pc := 235) dX12_termOf_235 rfl ?_
              refine tz_iadd (pc := 237) (v := b + m) dX12_termOf_237 rfl ?_
              refine tz_imul (pc := 238) (v := 3 * (b + m)) dX12_termOf_238 rfl ?_
              refine tz_iconst (pc := 239) dX12_termOf_239 ?_
              refine tz_iadd (pc := 240) (v := (3 * (b + m)) + 1) dX12_termOf_240 rfl ?_
              refine tz_iload (pc := 241) dX12_termOf_241 rfl ?_
              refine tz_iconst (pc := 243) dX12_termOf_243 ?_
              refine tz_icmp_leF (pc := 244) (tgt := 251) (by decide) dX12_termOf_244 (by decide) (by decide) (by decide) ?_
              refine tz_iload_n (pc := 247) dX12_termOf_247 rfl rfl ?_
              refine tz_goto (pc := 248) (tgt := 252) dX12_termOf_248 (by decide) ?_
              refine tz_aS (pc := 252) (z := ((3 * (b + m)) + 1)) dX12_termOf_252 a_167 rfl (by omega) (by omega) ?_
              refine tz_aload_n (pc := 253) dX12_termOf_253 rfl rfl ?_
              refine tz_fR (pc := 254) dX12_termOf_254 fl_X12_16 r_164_2 ?_
              refine tz_iconst (pc := 257) dX12_termOf_257 ?_
              refine tz_aload_n (pc := 258) dX12_termOf_258 rfl rfl ?_
              refine tz_fI (pc := 259) (kz := 15) (v := b) dX12_termOf_259 fl_X12_71 i_164_15 rfl hM2 (fun r_259 => ?_)
              refine tz_iload (pc := 262) dX12_termOf_262 rfl ?_
              refine tz_iadd (pc := 264) (v := b + m) dX12_termOf_264 rfl ?_
              refine tz_imul (pc := 265) (v := 3 * (b + m)) dX12_termOf_265 rfl ?_
              refine tz_iconst (pc := 266) dX12_termOf_266 ?_
              refine tz_iadd (pc := 267) (v := (3 * (b + m)) + 2) dX12_termOf_267 rfl ?_
              refine tz_iload (pc := 268) dX12_termOf_268 rfl ?_
              refine tz_iconst (pc := 270) dX12_termOf_270 ?_
              refine tz_icmp_leF (pc := 271) (tgt := 279) (by decide) dX12_termOf_271 (by decide) (by decide) (by decide) ?_
              refine tz_iload (pc := 274) dX12_termOf_274 rfl ?_
              refine tz_goto (pc := 276) (tgt := 280) dX12_termOf_276 (by decide) ?_
              refine tz_aS (pc := 280) (z := ((3 * (b + m)) + 2)) dX12_termOf_280 a_167 rfl (by omega) (by omega) ?_
              refine tz_aload_n (pc := 281) dX12_termOf_281 rfl rfl ?_
              refine tz_fR (pc := 282) dX12_termOf_282 fl_X12_19 r_164_3 ?_
              refine tz_aload_n (pc := 285) dX12_termOf_285 rfl rfl ?_
              refine tz_fI (pc := 286) (kz := 15) (v := b) dX12_termOf_286 fl_X12_71 i_164_15 rfl hM2 (fun r_286 => ?_)
              refine tz_iload (pc := 289) dX12_termOf_289 rfl ?_
              refine tz_iadd (pc := 291) (v := b + m) dX12_termOf_291 rfl ?_
              refine tz_iload (pc := 292) dX12_termOf_292 rfl ?_
              refine tz_aS (pc := 294) (z := (b + m)) dX12_termOf_294 a_168 rfl (by omega) (by omega) ?_
              refine tz_aload_n (pc := 295) dX12_termOf_295 rfl rfl ?_
              refine tz_fR (pc := 296) dX12_termOf_296 fl_X12_9 r_164_0 ?_
              refine tz_aload_n (pc := 299) dX12_termOf_299 rfl rfl ?_
              refine tz_fI (pc := 300) (kz := 16) (v := r) dX12_termOf_300 fl_X12_85 i_164_16 rfl hM3 (fun r_300 => ?_)
              refine tz_iconst (pc := 303) dX12_termOf_303 ?_
              refine tz_iadd (pc := 304) (v := r) dX12_termOf_304 (Int.add_zero _) ?_
              refine tz_dup2 (pc := 305) dX12_termOf_305 rfl rfl ?_
              refine tz_aL (pc := 306) (z := r) (v := m) dX12_termOf_306 a_165 rfl (by omega) hM5 (fun r_306 => ?_)
              refine tz_iconst (pc := 307) dX12_termOf_307 ?_
              refine tz_iadd (pc := 308) (v := m + 1) dX12_termOf_308 rfl ?_
              refine tz_aS (pc := 309) (z := r) dX12_termOf_309 a_165 rfl (by omega) (by omega) ?_
              refine tz_iload (pc := 310) dX12_termOf_310 rfl ?_
              exact tz_iret (pc := 312) (z := m) dX12_termOf_312 rfl (Nat.le_of_ble_eq_true rfl) (Nat.le_of_ble_eq_true rfl) ⟨Nat.le_refl _, Nat.le_add_right _ _⟩ ⟨_, rfl, (by omega), ⟨m + 1, hM.push (A := 3) (x := x) (y := y) (w := w) (by omega) hh (by unfold arh; rw [if_neg (by omega)]; exact hk.2) (by decide) (fun _ => ⟨rfl, by omega, by omega⟩) (fun _ => ⟨rfl, by omega, by omega⟩) (fun _ => ⟨rfl, by omega, by omega⟩) (fun q a c => hn q a (by omega)) (by omega) (by omega) h_4, by omega⟩⟩
            · refine tz_iconst (pc := 166) dX12_termOf_166 ?_
              refine tz_goto (pc := 167) (tgt := 171) dX12_termOf_167 (by decide) ?_
              refine tz_pZ (pc := 171) (kz := 21) dX12_termOf_171 fl_X12_92 i_164_21 rfl rfl (Or.inr rfl) ?_
              refine tz_aload_n (pc := 174) dX12_termOf_174 rfl rfl ?_
              refine tz_fI (pc := 175) (kz := 21) (v := 1) dX12_termOf_175 fl_X12_92 i_164_21 rfl rfl (fun _ => ?_)
              refine tz_if_eqF (pc := 178) (tgt := 183) (by decide) dX12_termOf_178 (by decide) (by decide) ?_
              refine tz_iconst (pc := 181) dX12_termOf_181 ?_
              exact tz_iret (pc := 182) (z := 0) dX12_termOf_182 rfl (Nat.le_of_ble_eq_true rfl) (Nat.le_of_ble_eq_true rfl) ⟨Nat.le_refl _, Nat.le_add_right _ _⟩ ⟨_, rfl, (by decide), ⟨m, (MG.rf hM).full (fun q => absurd q (by decide)), by omega⟩⟩
        · refine tz_aload_n (pc := 42) dX12_termOf_42 rfl rfl ?_
          refine tz_iload (pc := 43) dX12_termOf_43 rfl ?_
          refine tz_iload_n (pc := 45) dX12_termOf_45 rfl rfl ?_
          refine tz_iload (pc := 46) dX12_termOf_46 rfl ?_
          refine tz_iload_n (pc := 48) dX12_termOf_48 rfl rfl ?_
          refine tz_iload_n (pc := 49) dX12_termOf_49 rfl rfl ?_
          refine tz_iload (pc := 50) dX12_termOf_50 rfl ?_
          refine tz_cV (pc := 52) (m_isThat hl n _ _ _ _ _ _ _ (by omega) (by omega) (by decide) (by omega) (by omega) (by omega) b r d s m hM (by omega)) vl_X12_100 dX12_termOf_52 o_164 rfl rfl (Nat.le_of_ble_eq_true rfl) ⟨(Nat.le_of_ble_eq_true rfl), (Nat.le_of_ble_eq_true rfl)⟩ rfl rfl (Nat.le_of_ble_eq_true rfl) (Nat.le_of_ble_eq_true rfl) (fun r9 J_52 hq9 => ?_)
          obtain ⟨zi9, rfl, hz_52, rfl, hi1, hi2⟩ := hq9
          refine tz_if_eq (pc := 55) (tgt := 61) dX12_termOf_55 (by decide) (by omega) (fun h_55 => ?_) (fun h_55 => ?_)
          · refine tz_iinc (pc := 61) (z := t + 1) (L2 := [_, _, _, _, _, _, _, _]) dX12_termOf_61 rfl (by omega) rfl ?_
            refine tz_goto (pc := 64) (tgt := 33) dX12_termOf_64 (by decide) ?_
            exact ih33 (t + 1) (by omega) (by omega) (fun q a c => (Decidable.em (q = t)).elim (fun e => by rw [e]; exact fun e9 => by have := hi2.mpr e9; omega) (fun e => hn q a (by omega)))
          · refine tz_iload (pc := 58) dX12_termOf_58 rfl ?_
            exact tz_iret (pc := 60) (z := t) dX12_termOf_60 rfl (Nat.le_of_ble_eq_true rfl) (Nat.le_of_ble_eq_true rfl) ⟨Nat.le_refl _, Nat.le_add_right _ _⟩ ⟨_, rfl, (by omega), ⟨m, MG.rf hM, by omega⟩⟩
    exact loop33 _ 0 (Nat.lt_succ_self _) (by omega) (fun q a c => by omega)
  · refine tz_iconst (pc := 7) dX12_termOf_7 ?_
    exact tz_iret (pc := 8) (z := 0) dX12_termOf_8 rfl (Nat.le_of_ble_eq_true rfl) (Nat.le_of_ble_eq_true rfl) ⟨Nat.le_refl _, Nat.le_add_right _ _⟩ ⟨_, rfl, (by decide), ⟨m, MG.rf hM, by omega⟩⟩

theorem m_varTermU0 {l : Launch} {G : tb_G} (hl : l.stackTraces = false) (n : Nat) (J : zJ) (h : Int) (hr_h : -2147483648 ≤ h ∧ h < 2147483648) (b r d s m : Int) (hM : MS J b r d s m) (hh : -8 ≤ h ∧ h < 0) (hu : J 164 21 = 0 ∨ 0 < m) : tz_Ok l G M_X12_termOf 2 0 0 [.ref 164, zi h, zi 0, zi 0, zi 0] n J (zqi (fun z J' => ∃ m', MG [] [] (fun _ => false) J' J b r d s m m' ∧ 0 ≤ z ∧ z < m')) zN := m_tuN hl n J h 0 0 0 hr_h (by decide) (by decide) (by decide) b r d s m hM (by have := hM.told; omega) hh.2 hu (by omega)
set_option maxHeartbeats 4000000 in
set_option maxRecDepth 100000 in
theorem m_varTermU {l : Launch} {G : tb_G} (hl : l.stackTraces = false) (n : Nat) (J : zJ) (v : Int) (hr_v : -2147483648 ≤ v ∧ v < 2147483648) (b r d s m : Int) (hM : MS J b r d s m) (hv : 0 ≤ v ∧ v < 8) (hu : J 164 21 = 0 ∨ 0 < m) : tz_Ok l G M_X12_variableTerm 3 0 0 [.ref 164, zi v] n J (zqi (fun z J' => ∃ m', MG [] [] (fun _ => false) J' J b r d s m m' ∧ 0 ≤ z ∧ z < m')) zN := by
  refine tz_Ok.of hl (by decide +kernel) rfl (tb_c1 rfl) (Nat.le_of_ble_eq_true rfl) ?_
  show tz_At l G M_X12_variableTerm (tb_rm 3 0 0) none (tb_ZM G 0 0 (zQ n 0 (zqi (fun z J' => ∃ m', MG [] [] (fun _ => false) J' J b r d s m m' ∧ 0 ≤ z ∧ z < m'))) (zX n 0 zN)) 0 0 n J 0 [some (.ref 164), some (zi v)] []
  obtain ⟨hM1, hM2, hM3, hM4, hM5, hM6⟩ := id hM
  have hT := hM.told
  refine tz_aload_n (pc := 0) dX12_variableTerm_0 rfl rfl ?_
  refine tz_iconst (pc := 1) dX12_variableTerm_1 ?_
  refine tz_iload_n (pc := 2) dX12_variableTerm_2 rfl rfl ?_
  refine tz_isub (pc := 3) (v := (-1) - v) dX12_variableTerm_3 rfl ?_
  refine tz_iconst (pc := 4) dX12_variableTerm_4 ?_
  refine tz_iconst (pc := 5) dX12_variableTerm_5 ?_
  refine tz_iconst (pc := 6) dX12_variableTerm_6 ?_
  refine tz_cV (pc := 7) (m_varTermU0 hl n _ _ (by omega) b r d s m hM (by omega) hu) vl_X12_107 dX12_variableTerm_7 o_164 rfl rfl (Nat.le_of_ble_eq_true rfl) ⟨(Nat.le_of_ble_eq_true rfl), (Nat.le_of_ble_eq_true rfl)⟩ rfl rfl (Nat.le_of_ble_eq_true rfl) (Nat.le_of_ble_eq_true rfl) (fun r9 J_7 hq9 => ?_)
  obtain ⟨z_7, rfl, hz_7, m1, g1, h1⟩ := hq9
  exact tz_iret (pc := 10) (z := z_7) dX12_variableTerm_10 rfl (Nat.le_of_ble_eq_true rfl) (Nat.le_of_ble_eq_true rfl) ⟨Nat.le_refl _, Nat.le_add_right _ _⟩ ⟨_, rfl, (by omega), ⟨m1, g1, h1⟩⟩

def TV (J' : zJ) (z m : Int) : Prop := J' 164 43 = 0 → 0 ≤ z ∧ z < m
def rtF : List Int := [35, 36, 38, 39, 40, 41, 42, 43, 20]
/-- the table of a text has grown, the reading gone on -/
def MRT (J' J : zJ) (s m m' : Int) : Prop := MG [] rtF (fun _ => false) J' J 800 126 10 s m m' ∧ RSP J' ∧ (J' 164 43 = 0 → J 164 43 = 0) ∧ rmu J' ≤ rmu J ∧ (J' 164 21 = 0 ∨ 0 < m')
theorem MRT.rf {J : zJ} {s m : Int} (h : MS J 800 126 10 s m) (hP : RSP J) (hu : J 164 21 = 0 ∨ 0 < m) : MRT J J s m m := ⟨MG.rf h, hP, id, Int.le_refl _, hu⟩
theorem MRT.tr {J3 J2 J1 : zJ} {s m1 m2 m3 : Int} (g : MRT J2 J1 s m1 m2) (h : MRT J3 J2 s m2 m3) : MRT J3 J1 s m1 m3 := ⟨g.1.tr h.1, h.2.1, fun q => g.2.2.1 (h.2.2.1 q), Int.le_trans h.2.2.2.1 g.2.2.2.1, h.2.2.2.2⟩
theorem rtF_no {k : Int} (h : rtF.contains k = false) : rdF k = false ∧ ¬ k = 43 ∧ ¬ k = 20 := by
  simp [rtF] at h
  unfold rdF
  simp
  omega
theorem MRT.w {J3 J2 J1 : zJ} {s m m' : Int} (g : MRT J2 J1 s m m') (h : RGw J3 J2) : MRT J3 J1 s m m' := by
  refine ⟨g.1.off (fun k hk => h.1.2 k (rtF_no hk).1 (rtF_no hk).2.1 (rtF_no hk).2.2) (fun k _ => congrFun (h.1.1 165 rfl) k) (h.1.1.mono (zbut_sub (fun c hc => by simp at hc ⊢; omega))) ⟨rfl, rfl, rfl, rfl⟩ rfl ⟨rfl, rfl, rfl, rfl⟩, h.2.1, fun q => g.2.2.1 (h.2.2.1 q), Int.le_trans h.2.2.2 g.2.2.2.1, ?_⟩
  rw [h.1.2 21 rfl (by decide) (by decide)]
  exact g.2.2.2.2
theorem MRT.t {J3 J2 J1 : zJ} {s m m1 m2 : Int} (g : MRT J2 J1 s m m1) (h : MG [] [] (fun _ => false) J3 J2 800 126 10 s m1 m2) (h0 : 0 < m2) : MRT J3 J1 s m m2 := by
  have e : ∀ k, ¬ k = 21 → J3 164 k = J2 164 k := fun k hk => h.2.2.1.2.2.1 k (by simp; omega)
  refine ⟨g.1.tr (h.mono (fun _ q => q) (fun _ q => by simp at q) (fun _ q => q)), ?_, fun q => g.2.2.1 (by rw [← e 43 (by decide)]; exact q), ?_, Or.inr h0⟩
  · unfold RSP RSz
    rw [e 37 (by decide), e 35 (by decide), e 36 (by decide), e 42 (by decide), e 38 (by decide)]
    exact g.2.1
  · unfold rmu
    rw [e 37 (by decide), e 35 (by decide), e 38 (by decide)]
    exact g.2.2.2.1
theorem MRT.f {J2 J1 : zJ} {s m m' : Int} (g : MRT J2 J1 s m m') (k : Int) (hk : (21 :: rtF).contains k = false) : J2 164 k = J1 164 k := g.1.2.2.1.2.2.1 k hk
theorem MRT.c {J2 J1 : zJ} {s m m' : Int} (g : MRT J2 J1 s m m') (c : Nat) (hc : (zbut [164, 165, 166, 167, 168]) c = true) : J2 c = J1 c := g.1.2.2.1.2.2.2 c hc
