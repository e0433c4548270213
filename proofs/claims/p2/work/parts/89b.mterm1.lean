set_option maxHeartbeats 4000000 in
set_option maxRecDepth 100000 in
theorem m_tuN {l : Launch} {G : tb_G} (hl : l.stackTraces = false) (n : Nat) (J : zJ) (h : Int) (x : Int) (y : Int) (w : Int) (hr_h : -2147483648 ≤ h ∧ h < 2147483648) (hr_x : -2147483648 ≤ x ∧ x < 2147483648) (hr_y : -2147483648 ≤ y ∧ y < 2147483648) (hr_w : -2147483648 ≤ w ∧ w < 2147483648) (b r d s m : Int) (hM : MS J b r d s m) (hh : -8 ≤ h ∧ h < s) (hk : h < 0) (hu : J 164 21 = 0 ∨ 0 < m) (hg : (0 < (0 : Int) → 0 ≤ x ∧ x < m) ∧ (1 < (0 : Int) → 0 ≤ y ∧ y < m) ∧ (2 < (0 : Int) → 0 ≤ w ∧ w < m)) : tz_Ok l G M_X12_termOf 2 0 0 [.ref 164, zi h, zi x, zi y, zi w] n J (zqi (fun z J' => ∃ m', MG [] [] (fun _ => false) J' J b r d s m m' ∧ 0 ≤ z ∧ z < m')) zN := by
  refine tz_Ok.of hl (by decide +kernel) rfl (tb_c1 rfl) (Nat.le_of_ble_eq_true rfl) ?_
  show tz_At l G M_X12_termOf (tb_rm 2 0 0) none (tb_ZM G 0 0 (zQ n 0 (zqi (fun z J' => ∃ m', MG [] [] (fun _ => false) J' J b r d s m m' ∧ 0 ≤ z ∧ z < m'))) (zX n 0 zN)) 0 0 n J 0 [some (.ref 164), some (zi h), some (zi x), some (zi y), some (zi w), none, none, none] []
  obtain ⟨hM1, hM2, hM3, hM4, hM5, hM6⟩ := id hM
  have hT := hM.told
  refine tz_aload_n (pc := 0) dX12_termOf_0 rfl rfl ?_
  refine tz_fI (pc := 1) (kz := 21) (v := (J 164 21)) dX12_termOf_1 fl_X12_92 i_164_21 rfl rfl (fun r_1 => ?_)
  refine tz_if_eq (pc := 4) (tgt := 9) dX12_termOf_4 (by decide) (by omega) (fun h_4 => ?_) (fun h_4 => ?_)
  · refine tz_iload_n (pc := 9) dX12_termOf_9 rfl rfl ?_
    refine tz_if_geF (pc := 10) (tgt := 17) (by omega) dX12_termOf_10 (by decide) (by omega) ?_
    refine tz_iconst (pc := 13) dX12_termOf_13 ?_
    refine tz_goto (pc := 14) (tgt := 28) dX12_termOf_14 (by decide) ?_
    refine tz_istore (pc := 28) (L2 := [_, _, _, _, _, _, _, _]) dX12_termOf_28 (by decide) rfl ?_
    refine tz_iconst (pc := 30) dX12_termOf_30 ?_
    refine tz_istore (pc := 31) (L2 := [_, _, _, _, _, _, _, _]) dX12_termOf_31 (by decide) rfl ?_
    have loop33 : ∀ (f9 : Nat) (t : Int), ((m - t).toNat) < f9 → (0 ≤ t ∧ t ≤ m) → (∀ q, 0 ≤ q → q < t → ¬ (J 166 (b + q) = h ∧ (0 < (0 : Int) → J 167 (3 * (b + q) + 0) = x) ∧ (1 < (0 : Int) → J 167 (3 * (b + q) + 1) = y) ∧ (2 < (0 : Int) → J 167 (3 * (b + q) + 2) = w))) → tz_At l G M_X12_termOf (tb_rm 2 0 0) none (tb_ZM G 0 0 (zQ n 0 (zqi (fun z J' => ∃ m', MG [] [] (fun _ => false) J' J b r d s m m' ∧ 0 ≤ z ∧ z < m'))) (zX n 0 zN)) 0 0 n J 33 [some (.ref 164), some (zi h), some (zi x), some (zi y), some (zi w), some (zi 0), some (zi t), none] [] := by
      intro f9
      induction f9 with
      | zero => intro t hm9; exact absurd hm9 (Nat.not_lt_zero _)
      | succ f9 ih33 =>
        intro t hm33 hq hn
        refine tz_iload (pc := 33) dX12_termOf_33 rfl ?_
        refine tz_aload_n (pc := 35) dX12_termOf_35 rfl rfl ?_
        refine tz_cV (pc := 36) (m_many hl n _ b r d s m hM) vl_X12_96 dX12_termOf_36 o_164 rfl rfl (Nat.le_of_ble_eq_true rfl) ⟨(Nat.le_of_ble_eq_true rfl), (Nat.le_of_ble_eq_true rfl)⟩ rfl rfl (Nat.le_of_ble_eq_true rfl) (Nat.le_of_ble_eq_true rfl) (fun r9 J_36 hq9 => ?_)
        obtain ⟨z_36, rfl, hz_36, rfl, rfl⟩ := hq9
        refine tz_icmp_ge (pc := 39) (tgt := 67) dX12_termOf_39 (by decide) (by omega) (by omega) (fun h_39 => ?_) (fun h_39 => ?_)
        · refine tz_iconst (pc := 67) dX12_termOf_67 ?_
          refine tz_istore (pc := 68) (L2 := [_, _, _, _, _, _, _, _]) dX12_termOf_68 (by decide) rfl ?_
          refine tz_iload (pc := 70) dX12_termOf_70 rfl ?_
          refine tz_if_leT (pc := 72) (tgt := 95) (by decide) dX12_termOf_72 (by decide) (by decide) ?_
          refine tz_iload (pc := 95) dX12_termOf_95 rfl ?_
          refine tz_iconst (pc := 97) dX12_termOf_97 ?_
          refine tz_icmp_leT (pc := 98) (tgt := 121) (by decide) dX12_termOf_98 (by decide) (by decide) (by decide) ?_
          refine tz_iload (pc := 121) dX12_termOf_121 rfl ?_
          refine tz_iconst (pc := 123) dX12_termOf_123 ?_
          refine tz_icmp_leT (pc := 124) (tgt := 148) (by decide) dX12_termOf_124 (by decide) (by decide) (by decide) ?_
          refine tz_aload_n (pc := 148) dX12_termOf_148 rfl rfl ?_
          refine tz_iload (pc := 149) dX12_termOf_149 rfl ?_
          refine tz_bipush (pc := 151) dX12_termOf_151 (by decide) ?_
          refine tz_icmp_gtF (pc := 153) (tgt := 166) (by decide) dX12_termOf_153 (by decide) (by decide) (by decide) ?_
          refine tz_aload_n (pc := 156) dX12_termOf_156 rfl rfl ?_
          refine tz_cV (pc := 157) (m_many hl n _ b r d s m hM) vl_X12_96 dX12_termOf_157 o_164 rfl rfl (Nat.le_of_ble_eq_true rfl) ⟨(Nat.le_of_ble_eq_true rfl), (Nat.le_of_ble_eq_true rfl)⟩ rfl rfl (Nat.le_of_ble_eq_true rfl) (Nat.le_of_ble_eq_true rfl) (fun r9 J_157 hq9 => ?_)
          obtain ⟨z_157, rfl, hz_157, rfl, rfl⟩ := hq9
          refine tz_sipush (pc := 160) dX12_termOf_160 (by decide) ?_
          refine tz_icmp_ne (pc := 163) (tgt := 170) dX12_termOf_163 (by decide) (by omega) (by decide) (fun h_163 => ?_) (fun h_163 => ?_)
          · refine tz_iconst (pc := 170) dX12_termOf_170 ?_
            refine tz_pZ (pc := 171) (kz := 21) dX12_termOf_171 fl_X12_92 i_164_21 rfl rfl (Or.inl rfl) ?_
            refine tz_aload_n (pc := 174) dX12_termOf_174 rfl rfl ?_
            refine tz_fI (pc := 175) (kz := 21) (v := 0) dX12_termOf_175 fl_X12_92 i_164_21 rfl rfl (fun _ => ?_)
            refine tz_if_eqT (pc := 178) (tgt := 183) (by decide) dX12_termOf_178 (by decide) (by decide) ?_
            refine tz_aload_n (pc := 183) dX12_termOf_183 rfl rfl ?_
            refine tz_cV (pc := 184) (m_many hl n _ b r d s m (hM.of ⟨zup_ne (by decide), zup_ne (by decide), zup_ne (by decide)⟩ rfl rfl rfl rfl rfl)) vl_X12_96 dX12_termOf_184 o_164 rfl rfl (Nat.le_of_ble_eq_true rfl) ⟨(Nat.le_of_ble_eq_true rfl), (Nat.le_of_ble_eq_true rfl)⟩ rfl rfl (Nat.le_of_ble_eq_true rfl) (Nat.le_of_ble_eq_true rfl) (fun r9 J_184 hq9 => ?_)
            obtain ⟨z_184, rfl, hz_184, rfl, rfl⟩ := hq9
            refine tz_istore (pc := 187) (L2 := [_, _, _, _, _, _, _, _]) dX12_termOf_187 (by decide) rfl ?_
            refine tz_aload_n (pc := 189) dX12_termOf_189 rfl rfl ?_
            refine tz_fR (pc := 190) dX12_termOf_190 fl_X12_13 r_164_1 ?_
            refine tz_aload_n (pc := 193) dX12_termOf_193 rfl rfl ?_
            refine tz_fI (pc := 194) (kz := 15) (v := b) dX12_termOf_194 fl_X12_71 i_164_15 rfl hM2 (fun r_194 => ?_)
            refine tz_iload (pc := 197) dX12_termOf_197 rfl ?_
            refine tz_iadd (pc := 199) (v := b + m) dX12_termOf_199 rfl ?_
            refine tz_iload_n (pc := 200) dX12_termOf_200 rfl rfl ?_
            refine tz_aS (pc := 201) (z := (b + m)) dX12_termOf_201 a_166 rfl (by omega) (by omega) ?_
            refine tz_aload_n (pc := 202) dX12_termOf_202 rfl rfl ?_
            refine tz_fR (pc := 203) dX12_termOf_203 fl_X12_16 r_164_2 ?_
            refine tz_iconst (pc := 206) dX12_termOf_206 ?_
            refine tz_aload_n (pc := 207) dX12_termOf_207 rfl rfl ?_
            refine tz_fI (pc := 208) (kz := 15) (v := b) dX12_termOf_208 fl_X12_71 i_164_15 rfl hM2 (fun r_208 => ?_)
            refine tz_iload (pc := 211) dX12_termOf_211 rfl ?_
            refine tz_iadd (pc := 213) (v := b + m) dX12_termOf_213 rfl ?_
            refine tz_imul (pc := 214) (v := 3 * (b + m)) dX12_termOf_214 rfl ?_
            refine tz_iload (pc := 215) dX12_termOf_215 rfl ?_
            refine tz_if_leT (pc := 217) (tgt := 224) (by decide) dX12_termOf_217 (by decide) (by decide) ?_
            refine tz_iconst (pc := 224) dX12_termOf_224 ?_
            refine tz_aS (pc := 225) (z := (3 * (b + m))) dX12_termOf_225 a_167 rfl (by omega) (by decide) ?_
            refine tz_aload_n (pc := 226) dX12_termOf_226 rfl rfl ?_
            refine tz_fR (pc := 227) dX12_termOf_227 fl_X12_16 r_164_2 ?_
            refine tz_iconst (pc := 230) dX12_termOf_230 ?_
            refine tz_aload_n (pc := 231) dX12_termOf_231 rfl rfl ?_
            refine tz_fI (pc := 232) (kz := 15) (v := b) dX12_termOf_232 fl_X12_71 i_164_15 rfl hM2 (fun r_232 => ?_)
            refine tz_iload (pc := 235) dX12_termOf_235 rfl ?_
            refine tz_iadd (pc := 237) (v := b + m) dX12_termOf_237 rfl ?_
            refine tz_imul (pc := 238) (v := 3 * (b + m)) dX12_termOf_238 rfl ?_
            refine tz_iconst (pc := 239) dX12_termOf_239 ?_
            refine tz_iadd (pc := 240) (v := (3 * (b + m)) + 1) dX12_termOf_240 rfl ?_
            refine tz_iload (pc := 241) dX12_termOf_241 rfl ?_
            refine tz_iconst (pc := 243) dX12_termOf_243 ?_
            refine tz_icmp_leT (pc := 244) (tgt := 251) (by decide) dX12_termOf_244 (by decide) (by decide) (by decide) ?_
            refine tz_iconst (pc := 251) dX12_termOf_251 ?_
            refine tz_aS (pc := 252) (z := ((3 * (b + m)) + 1)) dX12_termOf_252 a_167 rfl (by omega) (by decide) ?_
            refine tz_aload_n (pc := 253) dX12_termOf_253 rfl rfl ?_
            refine tz_fR (pc := 254) dX12_termOf_254 fl_X12_16 r_164_2 ?_
            refine tz_iconst (pc := 257) dX12_termOf_257 ?_
            refine tz_aload_n (pc := 258) dX12_termOf_258 rfl rfl ?_
            refine tz_fI (pc := 259) (kz := 15) (v := b) dX12_termOf_259 fl_X12_71 i_164_15 rfl hM2 (fun r_259 => ?_)
            refine tz_iload (pc := 262) dX12_termOf_262 rfl ?_
            refine tz_iadd (pc := 264) (v := b + m) dX12_termOf_264 rfl ?_
            refine tz_imul (pc := 265) (v := 3 * (b + m)) dX12_termOf_265 rfl ?_
            refine tz_iconst (pc := 266) dX12_termOf_266 ?_
            refine tz_iadd (pc := 267) (v := (3 * (b + m)) + 2) dX12_termOf_267 rfl ?_
            refine tz_iload (pc := 268) dX12_termOf_268 rfl ?_
            refine tz_iconst (pc := 270) dX12_termOf_270 ?_
            refine tz_icmp_leT (pc := 271) (tgt := 279) (by decide) dX12_termOf_271 (by decide) (by decide) (by decide) ?_
            refine tz_iconst (pc := 279) dX12_termOf_279 ?_
            refine tz_aS (pc := 280) (z := ((3 * (b + m)) + 2)) dX12_termOf_280 a_167 rfl (by omega) (by decide) ?_
            refine tz_aload_n (pc := 281) dX12_termOf_281 rfl rfl ?_
            refine tz_fR (pc := 282) dX12_termOf_282 fl_X12_19 r_164_3 ?_
            refine tz_aload_n (pc := 285) dX12_termOf_285 rfl rfl ?_
            refine tz_fI (pc := 286) (kz := 15) (v := b) dX12_termOf_286 fl_X12_71 i_164_15 rfl hM2 (fun r_286 => ?_)
            refine tz_iload (pc := 289) dX12_termOf_289 rfl ?_
            refine tz_iadd (pc := 291) (v := b + m) dX12_termOf_291 rfl ?_
            refine tz_iload (pc := 292) dX12_termOf_292 rfl ?_
            refine tz_aS (pc := 294) (z := (b + m)) dX12_termOf_294 a_168 rfl (by omega) (by decide) ?_
            refine tz_aload_n (pc := 295) dX12_termOf_295 rfl rfl ?_
            refine tz_fR (pc := 296) dX12_termOf_296 fl_X12_9 r_164_0 ?_
            refine tz_aload_n (pc := 299) dX12_termOf_299 rfl rfl ?_
            refine tz_fI (pc := 300) (kz := 16) (v := r) dX12_termOf_300 fl_X12_85 i_164_16 rfl hM3 (fun r_300 => ?_)
            refine tz_iconst (pc := 303) dX12_termOf_303 ?_
            refine tz_iadd (pc := 304) (v := r) dX12_termOf_304 (Int.add_zero _) ?_
            refine tz_dup2 (pc := 305) dX12_termOf_305 rfl rfl ?_
            refine tz_aL (pc := 306) (z := r) (v := m) dX12_termOf_306 a_165 rfl (by omega) hM5 (fun r_306 => ?_)
            refine tz_iconst (pc := 307) dX12_termOf_307 ?_
            refine tz_iadd (pc := 308) (v := m + 1) dX12_termOf_308 rfl ?_
            refine tz_aS (pc := 309) (z := r) dX12_termOf_309 a_165 rfl (by omega) (by omega) ?_
            refine tz_iload (pc := 310) dX12_termOf_310 rfl ?_
            exact tz_iret (pc := 312) (z := m) dX12_termOf_312 rfl (Nat.le_of_ble_eq_true rfl) (Nat.le_of_ble_eq_true rfl) ⟨Nat.le_refl _, Nat.le_add_right _ _⟩ ⟨_, rfl, (by omega), ⟨m + 1, hM.push (A := 0) (x := x) (y := y) (w := w) (by omega) hh (by unfold arh; rw [if_pos hk]) (by decide) (fun g => absurd g (by decide)) (fun g => absurd g (by decide)) (fun g => absurd g (by decide)) (fun q a c => hn q a (by omega)) (by omega) (by omega) h_4, by omega⟩⟩
          · refine tz_iconst (pc := 166) dX12_termOf_166 ?_
            refine tz_goto (pc := 167) (tgt := 171) dX12_termOf_167 (by decide) ?_
            refine tz_pZ (pc := 171) (kz := 21) dX12_termOf_171 fl_X12_92 i_164_21 rfl rfl (Or.inr rfl) ?_
            refine tz_aload_n (pc := 174) dX12_termOf_174 rfl rfl ?_
            refine tz_fI (pc := 175) (kz := 21) (v := 1) dX12_termOf_175 fl_X12_92 i_164_21 rfl rfl (fun _ => ?_)
            refine tz_if_eqF (pc := 178) (tgt := 183) (by decide) dX12_termOf_178 (by decide) (by decide) ?_
            refine tz_iconst (pc := 181) dX12_termOf_181 ?_
            exact tz_iret (pc := 182) (z := 0) dX12_termOf_182 rfl (Nat.le_of_ble_eq_true rfl) (Nat.le_of_ble_eq_true rfl) ⟨Nat.le_refl _, Nat.le_add_right _ _⟩ ⟨_, rfl, (by decide), ⟨m, (MG.rf hM).full (fun q => absurd q (by decide)), by omega⟩⟩
        · refine tz_aload_n (pc := 42) dX12_termOf_42 rfl rfl ?_
          refine tz_iload (pc := 43) dX12_termOf_43 rfl ?_
          refine tz_iload_n (pc := 45) dX12_termOf_45 rfl rfl ?_
          refine tz_iload (pc := 46) dX12_termOf_46 rfl ?_
          refine tz_iload_n (pc := 48) dX12_termOf_48 rfl rfl ?_
          refine tz_iload_n (pc := 49) dX12_termOf_49 rfl rfl ?_
          refine tz_iload (pc := 50) dX12_termOf_50 rfl ?_
          refine tz_cV (pc := 52) (m_isThat hl n _ _ _ _ _ _ _ (by omega) (by omega) (by decide) (by omega) (by omega) (by omega) b r d s m hM (by omega)) vl_X12_100 dX12_termOf_52 o_164 rfl rfl (Nat.le_of_ble_eq_true rfl) ⟨(Nat.le_of_ble_eq_true rfl), (Nat.le_of_ble_eq_true rfl)⟩ rfl rfl (Nat.le_of_ble_eq_true rfl) (Nat.le_of_ble_eq_true rfl) (fun r9 J_52 hq9 => ?_)
          obtain ⟨zi9, rfl, hz_52, rfl, hi1, hi2⟩ := hq9
          refine tz_if_eq (pc := 55) (tgt := 61) dX12_termOf_55 (by decide) (by omega) (fun h_55 => ?_) (fun h_55 => ?_)
          · refine tz_iinc (pc := 61) (z := t + 1) (L2 := [_, _, _, _, _, _, _, _]) dX12_termOf_61 rfl (by omega) rfl ?_
            refine tz_goto (pc := 64) (tgt := 33) dX12_termOf_64 (by decide) ?_
            exact ih33 (t + 1) (by omega) (by omega) (fun q a c => (Decidable.em (q = t)).elim (fun e => by rw [e]; exact fun e9 => by have := hi2.mpr e9; omega) (fun e => hn q a (by omega)))
          · refine tz_iload (pc := 58) dX12_termOf_58 rfl ?_
            exact tz_iret (pc := 60) (z := t) dX12_termOf_60 rfl (Nat.le_of_ble_eq_true rfl) (Nat.le_of_ble_eq_true rfl) ⟨Nat.le_refl _, Nat.le_add_right _ _⟩ ⟨_, rfl, (by omega), ⟨m, MG.rf hM, by omega⟩⟩
    exact loop33 _ 0 (Nat.lt_succ_self _) (by omega) (fun q a c => by omega)
  · refine tz_iconst (pc := 7) dX12_termOf_7 ?_
    exact tz_iret (pc := 8) (z := 0) dX12_termOf_8 rfl (Nat.le_of_ble_eq_true rfl) (Nat.le_of_ble_eq_true rfl) ⟨Nat.le_refl _, Nat.le_add_right _ _⟩ ⟨_, rfl, (by decide), ⟨m, MG.rf hM, by omega⟩⟩

set_option maxHeartbeats 4000000 in
set_option maxRecDepth 100000 in
theorem m_tu0 {l : Launch} {G : tb_G} (hl : l.stackTraces = false) (n : Nat) (J : zJ) (h : Int) (x : Int) (y : Int) (w : Int) (hr_h : -2147483648 ≤ h ∧ h < 2147483648) (hr_x : -2147483648 ≤ x ∧ x < 2147483648) (hr_y : -2147483648 ≤ y ∧ y < 2147483648) (hr_w : -2147483648 ≤ w ∧ w < 2147483648) (b r d s m : Int) (hM : MS J b r d s m) (hh : -8 ≤ h ∧ h < s) (hk : 0 ≤ h ∧ J 170 (d + h) = 0) (hu : J 164 21 = 0 ∨ 0 < m) (hg : (0 < (0 : Int) → 0 ≤ x ∧ x < m) ∧ (1 < (0 : Int) → 0 ≤ y ∧ y < m) ∧ (2 < (0 : Int) → 0 ≤ w ∧ w < m)) : tz_Ok l G M_X12_termOf 2 0 0 [.ref 164, zi h, zi x, zi y, zi w] n J (zqi (fun z J' => ∃ m', MG [] [] (fun _ => false) J' J b r d s m m' ∧ 0 ≤ z ∧ z < m')) zN := by
  refine tz_Ok.of hl (by decide +kernel) rfl (tb_c1 rfl) (Nat.le_of_ble_eq_true rfl) ?_
  show tz_At l G M_X12_termOf (tb_rm 2 0 0) none (tb_ZM G 0 0 (zQ n 0 (zqi (fun z J' => ∃ m', MG [] [] (fun _ => false) J' J b r d s m m' ∧ 0 ≤ z ∧ z < m'))) (zX n 0 zN)) 0 0 n J 0 [some (.ref 164), some (zi h), some (zi x), some (zi y), some (zi w), none, none, none] []
  obtain ⟨hM1, hM2, hM3, hM4, hM5, hM6⟩ := id hM
  have hT := hM.told
  refine tz_aload_n (pc := 0) dX12_termOf_0 rfl rfl ?_
  refine tz_fI (pc := 1) (kz := 21) (v := (J 164 21)) dX12_termOf_1 fl_X12_92 i_164_21 rfl rfl (fun r_1 => ?_)
  refine tz_if_eq (pc := 4) (tgt := 9) dX12_termOf_4 (by decide) (by omega) (fun h_4 => ?_) (fun h_4 => ?_)
  · refine tz_iload_n (pc := 9) dX12_termOf_9 rfl rfl ?_
    refine tz_if_geT (pc := 10) (tgt := 17) (by omega) dX12_termOf_10 (by decide) (by omega) ?_
    refine tz_aload_n (pc := 17) dX12_termOf_17 rfl rfl ?_
    refine tz_fR (pc := 18) dX12_termOf_18 fl_X12_25 r_164_5 ?_
    refine tz_aload_n (pc := 21) dX12_termOf_21 rfl rfl ?_
    refine tz_fI (pc := 22) (kz := 17) (v := d) dX12_termOf_22 fl_X12_82 i_164_17 rfl hM4 (fun r_22 => ?_)
    refine tz_iload_n (pc := 25) dX12_termOf_25 rfl rfl ?_
    refine tz_iadd (pc := 26) (v := d + h) dX12_termOf_26 rfl ?_
    refine tz_aL (pc := 27) (z := (d + h)) (v := 0) dX12_termOf_27 a_170 rfl (by omega) hk.2 (fun _ => ?_)
    refine tz_istore (pc := 28) (L2 := [_, _, _, _, _, _, _, _]) dX12_termOf_28 (by decide) rfl ?_
    refine tz_iconst (pc := 30) dX12_termOf_30 ?_
    refine tz_istore (pc := 31) (L2 := [_, _, _, _, _, _, _, _]) dX12_termOf_31 (by decide) rfl ?_
    have loop33 : ∀ (f9 : Nat) (t : Int), ((m - t).toNat) < f9 → (0 ≤ t ∧ t ≤ m) → (∀ q, 0 ≤ q → q < t → ¬ (J 166 (b + q) = h ∧ (0 < (0 : Int) → J 167 (3 * (b + q) + 0) = x) ∧ (1 < (0 : Int) → J 167 (3 * (b + q) + 1) = y) ∧ (2 < (0 : Int) → J 167 (3 * (b + q) + 2) = w))) → tz_At l G M_X12_termOf (tb_rm 2 0 0) none (tb_ZM G 0 0 (zQ n 0 (zqi (fun z J' => ∃ m', MG [] [] (fun _ => false) J' J b r d s m m' ∧ 0 ≤ z ∧ z < m'))) (zX n 0 zN)) 0 0 n J 33 [some (.ref 164), some (zi h), some (zi x), some (zi y), some (zi w), some (zi 0), some (zi t), none] [] := by
      intro f9
      induction f9 with
      | zero => intro t hm9; exact absurd hm9 (Nat.not_lt_zero _)
      | succ f9 ih33 =>
        intro t hm33 hq hn
        refine tz_iload (pc := 33) dX12_termOf_33 rfl ?_
        refine tz_aload_n (pc := 35) dX12_termOf_35 rfl rfl ?_
        refine tz_cV (pc := 36) (m_many hl n _ b r d s m hM) vl_X12_96 dX12_termOf_36 o_164 rfl rfl (Nat.le_of_ble_eq_true rfl) ⟨(Nat.le_of_ble_eq_true rfl), (Nat.le_of_ble_eq_true rfl)⟩ rfl rfl (Nat.le_of_ble_eq_true rfl) (Nat.le_of_ble_eq_true rfl) (fun r9 J_36 hq9 => ?_)
        obtain ⟨z_36, rfl, hz_36, rfl, rfl⟩ := hq9
        refine tz_icmp_ge (pc := 39) (tgt := 67) dX12_termOf_39 (by decide) (by omega) (by omega) (fun h_39 => ?_) (fun h_39 => ?_)
        · refine tz_iconst (pc := 67) dX12_termOf_67 ?_
          refine tz_istore (pc := 68) (L2 := [_, _, _, _, _, _, _, _]) dX12_termOf_68 (by decide) rfl ?_
          refine tz_iload (pc := 70) dX12_termOf_70 rfl ?_
          refine tz_if_leT (pc := 72) (tgt := 95) (by decide) dX12_termOf_72 (by decide) (by decide) ?_
          refine tz_iload (pc := 95) dX12_termOf_95 rfl ?_
          refine tz_iconst (pc := 97) dX12_termOf_97 ?_
          refine tz_icmp_leT (pc := 98) (tgt := 121) (by decide) dX12_termOf_98 (by decide) (by decide) (by decide) ?_
          refine tz_iload (pc := 121) dX12_termOf_121 rfl ?_
          refine tz_iconst (pc := 123) dX12_termOf_123 ?_
          refine tz_icmp_leT (pc := 124) (tgt := 148) (by decide) dX12_termOf_124 (by decide) (by decide) (by decide) ?_
          refine tz_aload_n (pc := 148) dX12_termOf_148 rfl rfl ?_
          refine tz_iload (pc := 149) dX12_termOf_149 rfl ?_
          refine tz_bipush (pc := 151) dX12_termOf_151 (by decide) ?_
          refine tz_icmp_gtF (pc := 153) (tgt := 166) (by decide) dX12_termOf_153 (by decide) (by decide) (by decide) ?_
          refine tz_aload_n (pc := 156) dX12_termOf_156 rfl rfl ?_
          refine tz_cV (pc := 157) (m_many hl n _ b r d s m hM) vl_X12_96 dX12_termOf_157 o_164 rfl rfl (Nat.le_of_ble_eq_true rfl) ⟨(Nat.le_of_ble_eq_true rfl), (Nat.le_of_ble_eq_true rfl)⟩ rfl rfl (Nat.le_of_ble_eq_true rfl) (Nat.le_of_ble_eq_true rfl) (fun r9 J_157 hq9 => ?_)
          obtain ⟨z_157, rfl, hz_157, rfl, rfl⟩ := hq9
          refine tz_sipush (pc := 160) dX12_termOf_160 (by decide) ?_
          refine tz_icmp_ne (pc := 163) (tgt := 170) dX12_termOf_163 (by decide) (by omega) (by decide) (fun h_163 => ?_) (fun h_163 => ?_)
          · refine tz_iconst (pc := 170) dX12_termOf_170 ?_
            refine tz_pZ (pc := 171) (kz := 21) dX12_termOf_171 fl_X12_92 i_164_21 rfl rfl (Or.inl rfl) ?_
            refine tz_aload_n (pc := 174) dX12_termOf_174 rfl rfl ?_
            refine tz_fI (pc := 175) (kz := 21) (v := 0) dX12_termOf_175 fl_X12_92 i_164_21 rfl rfl (fun _ => ?_)
            refine tz_if_eqT (pc := 178) (tgt := 183) (by decide) dX12_termOf_178 (by decide) (by decide) ?_
            refine tz_aload_n (pc := 183) dX12_termOf_183 rfl rfl ?_
            refine tz_cV (pc := 184) (m_many hl n _ b r d s m (hM.of ⟨zup_ne (by decide), zup_ne (by decide), zup_ne (by decide)⟩ rfl rfl rfl rfl rfl)) vl_X12_96 dX12_termOf_184 o_164 rfl rfl (Nat.le_of_ble_eq_true rfl) ⟨(Nat.le_of_ble_eq_true rfl), (Nat.le_of_ble_eq_true rfl)⟩ rfl rfl (Nat.le_of_ble_eq_true rfl) (Nat.le_of_ble_eq_true rfl) (fun r9 J_184 hq9 => ?_)
            obtain ⟨z_184, rfl, hz_184, rfl, rfl⟩ := hq9
            refine tz_istore (pc := 187) (L2 := [_, _, _, _, _, _, _, _]) dX12_termOf_187 (by decide) rfl ?_
            refine tz_aload_n (pc := 189) dX12_termOf_189 rfl rfl ?_
            refine tz_fR (pc := 190) dX12_termOf_190 fl_X12_13 r_164_1 ?_
            refine tz_aload_n (pc := 193) dX12_termOf_193 rfl rfl ?_
            refine tz_fI (pc := 194) (kz := 15) (v := b) dX12_termOf_194 fl_X12_71 i_164_15 rfl hM2 (fun r_194 => ?_)
            refine tz_iload (pc := 197) dX12_termOf_197 rfl ?_
            refine tz_iadd (pc := 199) (v := b + m) dX12_termOf_199 rfl ?_
            refine tz_iload_n (pc := 200) dX12_termOf_200 rfl rfl ?_
            refine tz_aS (pc := 201) (z := (b + m)) dX12_termOf_201 a_166 rfl (by omega) (by omega) ?_
            refine tz_aload_n (pc := 202) dX12_termOf_202 rfl rfl ?_
            refine tz_fR (pc := 203) dX12_termOf_203 fl_X12_16 r_164_2 ?_
            refine tz_iconst (pc := 206) dX12_termOf_206 ?_
            refine tz_aload_n (pc := 207) dX12_termOf_207 rfl rfl ?_
            refine tz_fI (pc := 208) (kz := 15) (v := b) dX12_termOf_208 fl_X12_71 i_164_15 rfl hM2 (fun r_208 => ?_)
            refine tz_iload (pc := 211) dX12_termOf_211 rfl ?_
            refine tz_iadd (pc := 213) (v := b + m) dX12_termOf_213 rfl ?_
            refine tz_imul (pc := 214) (v := 3 * (b + m)) dX12_termOf_214 rfl ?_
            refine tz_iload (pc := 215) dX12_termOf_215 rfl ?_
            refine tz_if_leT (pc := 217) (tgt := 224) (by decide) dX12_termOf_217 (by decide) (by decide) ?_
            refine tz_iconst (pc := 224) dX12_termOf_224 ?_
            refine tz_aS (pc := 225) (z := (3 * (b + m))) dX12_termOf_225 a_167 rfl (by omega) (by decide) ?_
            refine tz_aload_n (pc := 226) dX12_termOf_226 rfl rfl ?_
            refine tz_fR (pc := 227) dX12_termOf_227 fl_X12_16 r_164_2 ?_
            refine tz_iconst (pc := 230) dX12_termOf_230 ?_
            refine tz_aload_n (pc := 231) dX12_termOf_231 rfl rfl ?_
            refine tz_fI (pc := 232) (kz := 15) (v := b) dX12_termOf_232 fl_X12_71 i_164_15 rfl hM2 (fun r_232 => ?_)
            refine tz_iload (pc := 235) dX12_termOf_235 rfl ?_
            refine tz_iadd (pc := 237) (v := b + m) dX12_termOf_237 rfl ?_
            refine tz_imul (pc := 238) (v := 3 * (b + m)) dX12_termOf_238 rfl ?_
            refine tz_iconst (pc := 239) dX12_termOf_239 ?_
            refine tz_iadd (pc := 240) (v := (3 * (b + m)) + 1) dX12_termOf_240 rfl ?_
            refine tz_iload (pc := 241) dX12_termOf_241 rfl ?_
            refine tz_iconst (pc := 243) dX12_termOf_243 ?_
            refine tz_icmp_leT (pc := 244) (tgt := 251) (by decide) dX12_termOf_244 (by decide) (by decide) (by decide) ?_
            refine tz_iconst (pc := 251) dX12_termOf_251 ?_
            refine tz_aS (pc := 252) (z := ((3 * (b + m)) + 1)) dX12_termOf_252 a_167 rfl (by omega) (by decide) ?_
            refine tz_aload_n (pc := 253) dX12_termOf_253 rfl rfl ?_
            refine tz_fR (pc := 254) dX12_termOf_254 fl_X12_16 r_164_2 ?_
            refine tz_iconst (pc := 257) dX12_termOf_257 ?_
            refine tz_aload_n (pc := 258) dX12_termOf_258 rfl rfl ?_
            refine tz_fI (pc := 259) (kz := 15) (v := b) dX12_termOf_259 fl_X12_71 i_164_15 rfl hM2 (fun r_259 => ?_)
            refine tz_iload (pc := 262) dX12_termOf_262 rfl ?_
            refine tz_iadd (pc := 264) (v := b + m) dX12_termOf_264 rfl ?_
            refine tz_imul (pc := 265) (v := 3 * (b + m)) dX12_termOf_265 rfl ?_
            refine tz_iconst (pc := 266) dX12_termOf_266 ?_
            refine tz_iadd (pc := 267) (v := (3 * (b + m)) + 2) dX12_termOf_267 rfl ?_
            refine tz_iload (pc := 268) dX12_termOf_268 rfl ?_
            refine tz_iconst (pc := 270) dX12_termOf_270 ?_
            refine tz_icmp_leT (pc := 271) (tgt := 279) (by decide) dX12_termOf_271 (by decide) (by decide) (by decide) ?_
            refine tz_iconst (pc := 279) dX12_termOf_279 ?_
            refine tz_aS (pc := 280) (z := ((3 * (b + m)) + 2)) dX12_termOf_280 a_167 rfl (by omega) (by decide) ?_
            refine tz_aload_n (pc := 281) dX12_termOf_281 rfl rfl ?_
            refine tz_fR (pc := 282) dX12_termOf_282 fl_X12_19 r_164_3 ?_
            refine tz_aload_n (pc := 285) dX12_termOf_285 rfl rfl ?_
            refine tz_fI (pc := 286) (kz := 15) (v := b) dX12_termOf_286 fl_X12_71 i_164_15 rfl hM2 (fun r_286 => ?_)
            refine tz_iload (pc := 289) dX12_termOf_289 rfl ?_
            refine tz_iadd (pc := 291) (v := b + m) dX12_termOf_291 rfl ?_
            refine tz_iload (pc := 292) dX12_termOf_292 rfl ?_
            refine tz_aS (pc := 294) (z := (b + m)) dX12_termOf_294 a_168 rfl (by omega) (by decide) ?_
            refine tz_aload_n (pc := 295) dX12_termOf_295 rfl rfl ?_
            refine tz_fR (pc := 296) dX12_termOf_296 fl_X12_9 r_164_0 ?_
            refine tz_aload_n (pc := 299) dX12_termOf_299 rfl rfl ?_
            refine tz_fI (pc := 300) (kz := 16) (v := r) dX12_termOf_300 fl_X12_85 i_164_16 rfl hM3 (fun r_300 => ?_)
            refine tz_iconst (pc := 303) dX12_termOf_303 ?_
            refine tz_iadd (pc := 304) (v := r) dX12_termOf_304 (Int.add_zero _) ?_
            refine tz_dup2 (pc := 305) dX12_termOf_305 rfl rfl ?_
            refine tz_aL (pc := 306) (z := r) (v := m) dX12_termOf_306 a_165 rfl (by omega) hM5 (fun r_306 => ?_)
            refine tz_iconst (pc := 307) dX12_termOf_307 ?_
            refine tz_iadd (pc := 308) (v := m + 1) dX12_termOf_308 rfl ?_
            refine tz_aS (pc := 309) (z := r) dX12_termOf_309 a_165 rfl (by omega) (by omega) ?_
            refine tz_iload (pc := 310) dX12_termOf_310 rfl ?_
            exact tz_iret (pc := 312) (z := m) dX12_termOf_312 rfl (Nat.le_of_ble_eq_true rfl) (Nat.le_of_ble_eq_true rfl) ⟨Nat.le_refl _, Nat.le_add_right _ _⟩ ⟨_, rfl, (by omega), ⟨m + 1, hM.push (A := 0) (x := x) (y := y) (w := w) (by omega) hh (by unfold arh; rw [if_neg (by omega)]; exact hk.2) (by decide) (fun g => absurd g (by decide)) (fun g => absurd g (by decide)) (fun g => absurd g (by decide)) (fun q a c => hn q a (by omega)) (by omega) (by omega) h_4, by omega⟩⟩
          · refine tz_iconst (pc := 166) dX12_termOf_166 ?_
            refine tz_goto (pc := 167) (tgt := 171) dX12_termOf_167 (by decide) ?_
            refine tz_pZ (pc := 171) (kz := 21) dX12_termOf_171 fl_X12_92 i_164_21 rfl rfl (Or.inr rfl) ?_
            refine tz_aload_n (pc := 174) dX12_termOf_174 rfl rfl ?_
            refine tz_fI (pc := 175) (kz := 21) (v := 1) dX12_termOf_175 fl_X12_92 i_164_21 rfl rfl (fun _ => ?_)
            refine tz_if_eqF (pc := 178) (tgt := 183) (by decide) dX12_termOf_178 (by decide) (by decide) ?_
            refine tz_iconst (pc := 181) dX12_termOf_181 ?_
            exact tz_iret (pc := 182) (z := 0) dX12_termOf_182 rfl (Nat.le_of_ble_eq_true rfl) (Nat.le_of_ble_eq_true rfl) ⟨Nat.le_refl _, Nat.le_add_right _ _⟩ ⟨_, rfl, (by decide), ⟨m, (MG.rf hM).full (fun q => absurd q (by decide)), by omega⟩⟩
        · refine tz_aload_n (pc := 42) dX12_termOf_42 rfl rfl ?_
          refine tz_iload (pc := 43) dX12_termOf_43 rfl ?_
          refine tz_iload_n (pc := 45) dX12_termOf_45 rfl rfl ?_
          refine tz_iload (pc := 46) dX12_termOf_46 rfl ?_
          refine tz_iload_n (pc := 48) dX12_termOf_48 rfl rfl ?_
          refine tz_iload_n (pc := 49) dX12_termOf_49 rfl rfl ?_
          refine tz_iload (pc := 50) dX12_termOf_50 rfl ?_
          refine tz_cV (pc := 52) (m_isThat hl n _ _ _ _ _ _ _ (by omega) (by omega) (by decide) (by omega) (by omega) (by omega) b r d s m hM (by omega)) vl_X12_100 dX12_termOf_52 o_164 rfl rfl (Nat.le_of_ble_eq_true rfl) ⟨(Nat.le_of_ble_eq_true rfl), (Nat.le_of_ble_eq_true rfl)⟩ rfl rfl (Nat.le_of_ble_eq_true rfl) (Nat.le_of_ble_eq_true rfl) (fun r9 J_52 hq9 => ?_)
          obtain ⟨zi9, rfl, hz_52, rfl, hi1, hi2⟩ := hq9
          refine tz_if_eq (pc := 55) (tgt := 61) dX12_termOf_55 (by decide) (by omega) (fun h_55 => ?_) (fun h_55 => ?_)
          · refine tz_iinc (pc := 61) (z := t + 1) (L2 := [_, _, _, _, _, _, _, _]) dX12_termOf_61 rfl (by omega) rfl ?_
            refine tz_goto (pc := 64) (tgt := 33) dX12_termOf_64 (by decide) ?_
            exact ih33 (t + 1) (by omega) (by omega) (fun q a c => (Decidable.em (q = t)).elim (fun e => by rw [e]; exact fun e9 => by have := hi2.mpr e9; omega) (fun e => hn q a (by omega)))
          · refine tz_iload (pc := 58) dX12_termOf_58 rfl ?_
            exact tz_iret (pc := 60) (z := t) dX12_termOf_60 rfl (Nat.le_of_ble_eq_true rfl) (Nat.le_of_ble_eq_true rfl) ⟨Nat.le_refl _, Nat.le_add_right _ _⟩ ⟨_, rfl, (by omega), ⟨m, MG.rf hM, by omega⟩⟩
    exact loop33 _ 0 (Nat.lt_succ_self _) (by omega) (fun q a c => by omega)
  · refine tz_iconst (pc := 7) dX12_termOf_7 ?_
    exact tz_iret (pc := 8) (z := 0) dX12_termOf_8 rfl (Nat.le_of_ble_eq_true rfl) (Nat.le_of_ble_eq_true rfl) ⟨Nat.le_refl _, Nat.le_add_right _ _⟩ ⟨_, rfl, (by decide), ⟨m, MG.rf hM, by omega⟩⟩

set_option maxHeartbeats 4000000 in
set_option maxRecDepth 100000 in
theorem m_tu1 {l : Launch} {G : tb_G} (hl : l.stackTraces = false) (n : Nat) (J : zJ) (h : Int) (x : Int) (y : Int) (w : Int) (hr_h : -2147483648 ≤ h ∧ h < 2147483648) (hr_x : -2147483648 ≤ x ∧ x < 2147483648) (hr_y : -2147483648 ≤ y ∧ y < 2147483648) (hr_w : -2147483648 ≤ w ∧ w < 2147483648) (b r d s m : Int) (hM : MS J b r d s m) (hh : -8 ≤ h ∧ h < s) (hk : 0 ≤ h ∧ J 170 (d + h) = 1) (hu : J 164 21 = 0 ∨ 0 < m) (hg : (0 < (1 : Int) → 0 ≤ x ∧ x < m) ∧ (1 < (1 : Int) → 0 ≤ y ∧ y < m) ∧ (2 < (1 : Int) → 0 ≤ w ∧ w < m)) : tz_Ok l G M_X12_termOf 2 0 0 [.ref 164, zi h, zi x, zi y, zi w] n J (zqi (fun z J' => ∃ m', MG [] [] (fun _ => false) J' J b r d s m m' ∧ 0 ≤ z ∧ z < m')) zN := by
  refine tz_Ok.of hl (by decide +kernel) rfl (tb_c1 rfl) (Nat.le_of_ble_eq_true rfl) ?_
  show tz_At l G M_X12_termOf (tb_rm 2 0 0) none (tb_ZM G 0 0 (zQ n 0 (zqi (fun z J' => ∃ m', MG [] [] (fun _ => false) J' J b r d s m m' ∧ 0 ≤ z ∧ z < m'))) (zX n 0 zN)) 0 0 n J 0 [some (.ref 164), some (zi h), some (zi x), some (zi y), some (zi w), none, none, none] []
  obtain ⟨hM1, hM2, hM3, hM4, hM5, hM6⟩ := id hM
  have hT := hM.told
  refine tz_aload_n (pc := 0) dX12_termOf_0 rfl rfl ?_
  refine tz_fI (pc := 1) (kz := 21) (v := (J 164 21)) dX12_termOf_1 fl_X12_92 i_164_21 rfl rfl (fun r_1 => ?_)
  refine tz_if_eq (pc := 4) (tgt := 9) dX12_termOf_4 (by decide) (by omega) (fun h_4 => ?_) (fun h_4 => ?_)
  · refine tz_iload_n (pc := 9) dX12_termOf_9 rfl rfl ?_
    refine tz_if_geT (pc := 10) (tgt := 17) (by omega) dX12_termOf_10 (by decide) (by omega) ?_
    refine tz_aload_n (pc := 17) dX12_termOf_17 rfl rfl ?_
    refine tz_fR (pc := 18) dX12_termOf_18 fl_X12_25 r_164_5 ?_
    refine tz_aload_n (pc := 21) dX12_termOf_21 rfl rfl ?_
    refine tz_fI (pc := 22) (kz := 17) (v := d) dX12_termOf_22 fl_X12_82 i_164_17 rfl hM4 (fun r_22 => ?_)
    refine tz_iload_n (pc := 25) dX12_termOf_25 rfl rfl ?_
    refine tz_iadd (pc := 26) (v := d + h) dX12_termOf_26 rfl ?_
    refine tz_aL (pc := 27) (z := (d + h)) (v := 1) dX12_termOf_27 a_170 rfl (by omega) hk.2 (fun _ => ?_)
    refine tz_istore (pc := 28) (L2 := [_, _, _, _, _, _, _, _]) dX12_termOf_28 (by decide) rfl ?_
    refine tz_iconst (pc := 30) dX12_termOf_30 ?_
    refine tz_istore (pc := 31) (L2 := [_, _, _, _, _, _, _, _]) dX12_termOf_31 (by decide) rfl ?_
    have loop33 : ∀ (f9 : Nat) (t : Int), ((m - t).toNat) < f9 → (0 ≤ t ∧ t ≤ m) → (∀ q, 0 ≤ q → q < t → ¬ (J 166 (b + q) = h ∧ (0 < (1 : Int) → J 167 (3 * (b + q) + 0) = x) ∧ (1 < (1 : Int) → J 167 (3 * (b + q) + 1) = y) ∧ (2 < (1 : Int) → J 167 (3 * (b + q) + 2) = w))) → tz_At l G M_X12_termOf (tb_rm 2 0 0) none (tb_ZM G 0 0 (zQ n 0 (zqi (fun z J' => ∃ m', MG [] [] (fun _ => false) J' J b r d s m m' ∧ 0 ≤ z ∧ z < m'))) (zX n 0 zN)) 0 0 n J 33 [some (.ref 164), some (zi h), some (zi x), some (zi y), some (zi w), some (zi 1), some (zi t), none] [] := by
      intro f9
      induction f9 with
      | zero => intro t hm9; exact absurd hm9 (Nat.not_lt_zero _)
      | succ f9 ih33 =>
        intro t hm33 hq hn
        refine tz_iload (pc := 33) dX12_termOf_33 rfl ?_
        refine tz_aload_n (pc := 35) dX12_termOf_35 rfl rfl ?_
        refine tz_cV (pc := 36) (m_many hl n _ b r d s m hM) vl_X12_96 dX12_termOf_36 o_164 rfl rfl (Nat.le_of_ble_eq_true rfl) ⟨(Nat.le_of_ble_eq_true rfl), (Nat.le_of_ble_eq_true rfl)⟩ rfl rfl (Nat.le_of_ble_eq_true rfl) (Nat.le_of_ble_eq_true rfl) (fun r9 J_36 hq9 => ?_)
        obtain ⟨z_36, rfl, hz_36, rfl, rfl⟩ := hq9
        refine tz_icmp_ge (pc := 39) (tgt := 67) dX12_termOf_39 (by decide) (by omega) (by omega) (fun h_39 => ?_) (fun h_39 => ?_)
        · have hz0 := hM.ar (t := x) (by omega)
          refine tz_iconst (pc := 67) dX12_termOf_67 ?_
          refine tz_istore (pc := 68) (L2 := [_, _, _, _, _, _, _, _]) dX12_termOf_68 (by decide) rfl ?_
          refine tz_iload (pc := 70) dX12_termOf_70 rfl ?_
          refine tz_if_leF (pc := 72) (tgt := 95) (by decide) dX12_termOf_72 (by decide) (by decide) ?_
          refine tz_iload (pc := 75) dX12_termOf_75 rfl ?_
          refine tz_aload_n (pc := 77) dX12_termOf_77 rfl rfl ?_
          refine tz_fR (pc := 78) dX12_termOf_78 fl_X12_19 r_164_3 ?_
          refine tz_aload_n (pc := 81) dX12_termOf_81 rfl rfl ?_
          refine tz_fI (pc := 82) (kz := 15) (v := b) dX12_termOf_82 fl_X12_71 i_164_15 rfl hM2 (fun r_82 => ?_)
          refine tz_iload_n (pc := 85) dX12_termOf_85 rfl rfl ?_
          refine tz_iadd (pc := 86) (v := b + x) dX12_termOf_86 rfl ?_
          refine tz_aL (pc := 87) (z := (b + x)) (v := (J 168 (b + x))) dX12_termOf_87 a_168 rfl (by omega) rfl (fun r_87 => ?_)
          refine tz_iconst (pc := 88) dX12_termOf_88 ?_
          refine tz_iadd (pc := 89) (v := (J 168 (b + x)) + 1) dX12_termOf_89 rfl ?_
          refine tz_cS (pc := 90) (zm_greater hl n _ _ _ (by decide) (by omega)) sl_X12_104 dX12_termOf_90 rfl rfl (Nat.le_of_ble_eq_true rfl) ⟨(Nat.le_of_ble_eq_true rfl), (Nat.le_of_ble_eq_true rfl)⟩ rfl rfl (Nat.le_of_ble_eq_true rfl) (Nat.le_of_ble_eq_true rfl) (fun r9 J_90 hq9 => ?_)
          obtain ⟨z_90, rfl, hz_90, rfl, hg_90⟩ := hq9
          have gz_90 : (1 ≤ z_90 ∧ ((J 168 (b + x)) + 1) ≤ z_90) ∧ (z_90 = 1 ∨ z_90 = ((J 168 (b + x)) + 1)) := by rw [← hg_90]; split <;> omega
          refine tz_istore (pc := 93) (L2 := [_, _, _, _, _, _, _, _]) dX12_termOf_93 (by decide) rfl ?_
          refine tz_iload (pc := 95) dX12_termOf_95 rfl ?_
          refine tz_iconst (pc := 97) dX12_termOf_97 ?_
          refine tz_icmp_leT (pc := 98) (tgt := 121) (by decide) dX12_termOf_98 (by decide) (by decide) (by decide) ?_
          refine tz_iload (pc := 121) dX12_termOf_121 rfl ?_
          refine tz_iconst (pc := 123) dX12_termOf_123 ?_
          refine tz_icmp_leT (pc := 124) (tgt := 148) (by decide) dX12_termOf_124 (by decide) (by decide) (by decide) ?_
          refine tz_aload_n (pc := 148) dX12_termOf_148 rfl rfl ?_
          refine tz_iload (pc := 149) dX12_termOf_149 rfl ?_
          refine tz_bipush (pc := 151) dX12_termOf_151 (by decide) ?_
          refine tz_icmp_gt (pc := 153) (tgt := 166) dX12_termOf_153 (by decide) (by omega) (by decide) (fun h_153 => ?_) (fun h_153 => ?_)
          · refine tz_iconst (pc := 166) dX12_termOf_166 ?_
            refine tz_goto (pc := 167) (tgt := 171) dX12_termOf_167 (by decide) ?_
            refine tz_pZ (pc := 171) (kz := 21) dX12_termOf_171 fl_X12_92 i_164_21 rfl rfl (Or.inr rfl) ?_
            refine tz_aload_n (pc := 174) dX12_termOf_174 rfl rfl ?_
            refine tz_fI (pc := 175) (kz := 21) (v := 1) dX12_termOf_175 fl_X12_92 i_164_21 rfl rfl (fun _ => ?_)
            refine tz_if_eqF (pc := 178) (tgt := 183) (by decide) dX12_termOf_178 (by decide) (by decide) ?_
            refine tz_iconst (pc := 181) dX12_termOf_181 ?_
            exact tz_iret (pc := 182) (z := 0) dX12_termOf_182 rfl (Nat.le_of_ble_eq_true rfl) (Nat.le_of_ble_eq_true rfl) ⟨Nat.le_refl _, Nat.le_add_right _ _⟩ ⟨_, rfl, (by decide), ⟨m, (MG.rf hM).full (fun q => absurd q (by decide)), by omega⟩⟩
          · refine tz_aload_n (pc := 156) dX12_termOf_156 rfl rfl ?_
            refine tz_cV (pc := 157) (m_many hl n _ b r d s m hM) vl_X12_96 dX12_termOf_157 o_164 rfl rfl (Nat.le_of_ble_eq_true rfl) ⟨(Nat.le_of_ble_eq_true rfl), (Nat.le_of_ble_eq_true rfl)⟩ rfl rfl (Nat.le_of_ble_eq_true rfl) (Nat.le_of_ble_eq_true rfl) (fun r9 J_157 hq9 => ?_)
            obtain ⟨z_157, rfl, hz_157, rfl, rfl⟩ := hq9
            refine tz_sipush (pc := 160) dX12_termOf_160 (by decide) ?_
            refine tz_icmp_ne (pc := 163) (tgt := 170) dX12_termOf_163 (by decide) (by omega) (by decide) (fun h_163 => ?_) (fun h_163 => ?_)
            · refine tz_iconst (pc := 170) dX12_termOf_170 ?_
              refine tz_pZ (pc := 171) (kz := 21) dX12_termOf_171 fl_X12_92 i_164_21 rfl rfl (Or.inl rfl) ?_
              refine tz_aload_n (pc := 174) dX12_termOf_174 rfl rfl ?_
              refine tz_fI (pc := 175) (kz := 21) (v := 0) dX12_termOf_175 fl_X12_92 i_164_21 rfl rfl (fun _ => ?_)
              refine tz_if_eqT (pc := 178) (tgt := 183) (by decide) dX12_termOf_178 (by decide) (by decide) ?_
              refine tz_aload_n (pc := 183) dX12_termOf_183 rfl rfl ?_
              refine tz_cV (pc := 184) (m_many hl n _ b r d s m (hM.of ⟨zup_ne (by decide), zup_ne (by decide), zup_ne (by decide)⟩ rfl rfl rfl rfl rfl)) vl_X12_96 dX12_termOf_184 o_164 rfl rfl (Nat.le_of_ble_eq_true rfl) ⟨(Nat.le_of_ble_eq_true rfl), (Nat.le_of_ble_eq_true rfl)⟩ rfl rfl (Nat.le_of_ble_eq_true rfl) (Nat.le_of_ble_eq_true rfl) (fun r9 J_184 hq9 => ?_)
              obtain ⟨z_184, rfl, hz_184, rfl, rfl⟩ := hq9
              refine tz_istore (pc := 187) (L2 := [_, _, _, _, _, _, _, _]) dX12_termOf_187 (by decide) rfl ?_
              refine tz_aload_n (pc := 189) dX12_termOf_189 rfl rfl ?_
              refine tz_fR (pc := 190) dX12_termOf_190 fl_X12_13 r_164_1 ?_
              refine tz_aload_n (pc := 193) dX12_termOf_193 rfl rfl ?_
              refine tz_fI (pc := 194) (kz := 15) (v := b) dX12_termOf_194 fl_X12_71 i_164_15 rfl hM2 (fun r_194 => ?_)
              refine tz_iload (pc := 197) dX12_termOf_197 rfl ?_
              refine tz_iadd (pc := 199) (v := b + m) dX12_termOf_199 rfl ?_
              refine tz_iload_n (pc := 200) dX12_termOf_200 rfl rfl ?_
              refine tz_aS (pc := 201) (z := (b + m)) dX12_termOf_201 a_166 rfl (by omega) (by omega) ?_
              refine tz_aload_n (pc := 202) dX12_termOf_202 rfl rfl ?_
              refine tz_fR (pc := 203) dX12_termOf_203 fl_X12_16 r_164_2 ?_
              refine tz_iconst (pc := 206) dX12_termOf_206 ?_
              refine tz_aload_n (pc := 207) dX12_termOf_207 rfl rfl ?_
              refine tz_fI (pc := 208) (kz := 15) (v := b) dX12_termOf_208 fl_X12_71 i_164_15 rfl hM2 (fun r_208 => ?_)
              refine tz_iload (pc := 211) dX12_termOf_211 rfl ?_
              refine tz_iadd (pc := 213) (v := b + m) dX12_termOf_213 rfl ?_
              refine tz_imul (pc := 214) (v := 3 * (b + m)) dX12_termOf_214 rfl ?_
              refine tz_iload (pc := 215) dX12_termOf_215 rfl ?_
              refine tz_if_leF (pc := 217) (tgt := 224) (by decide) dX12_termOf_217 (by decide) (by decide) ?_
              refine tz_iload_n (pc := 220) dX12_termOf_220 rfl rfl ?_
              refine tz_goto (pc := 221) (tgt := 225) dX12_termOf_221 (by decide) ?_
              refine tz_aS (pc := 225) (z := (3 * (b + m))) dX12_termOf_225 a_167 rfl (by omega) (by omega) ?_
              refine tz_aload_n (pc := 226) dX12_termOf_226 rfl rfl ?_
              refine tz_fR (pc := 227) dX12_termOf_227 fl_X12_16 r_164_2 ?_
              refine tz_iconst (pc := 230) dX12_termOf_230 ?_
              refine tz_aload_n (pc := 231) dX12_termOf_231 rfl rfl ?_
              refine tz_fI (pc := 232) (kz := 15) (v := b) dX12_termOf_232 fl_X12_71 i_164_15 rfl hM2 (fun r_232 => ?_)
              refine tz_iload (pc := 235) dX12_termOf_235 rfl ?_
              refine tz_iadd (pc := 237) (v := b + m) dX12_termOf_237 rfl ?_
              refine tz_imul (pc := 238) (v := 3 * (b + m)) dX12_termOf_238 rfl ?_
              refine tz_iconst (pc := 239) dX12_termOf_239 ?_
              refine tz_iadd (pc := 240) (v := (3 * (b + m)) + 1) dX12_termOf_240 rfl ?_
              refine tz_iload (pc := 241) dX12_termOf_241 rfl ?_
              refine tz_iconst (pc := 243) dX12_termOf_243 ?_
              refine tz_icmp_leT (pc := 244) (tgt := 251) (by decide) dX12_termOf_244 (by decide) (by decide) (by decide) ?_
              refine tz_iconst (pc := 251) dX12_termOf_251 ?_
              refine tz_aS (pc := 252) (z := ((3 * (b + m)) + 1)) dX12_termOf_252 a_167 rfl (by omega) (by decide) ?_
              refine tz_aload_n (pc := 253) dX12_termOf_253 rfl rfl ?_
              refine tz_fR (pc := 254) dX12_termOf_254 fl_X12_16 r_164_2 ?_
              refine tz_iconst (pc := 257) dX12_termOf_257 ?_
              refine tz_aload_n (pc := 258) dX12_termOf_258 rfl rfl ?_
              refine tz_fI (pc := 259) (kz := 15) (v := b) dX12_termOf_259 fl_X12_71 i_164_15 rfl hM2 (fun r_259 => ?_)
              refine tz_iload (pc := 262) dX12_termOf_262 rfl ?_
              refine tz_iadd (pc := 264) (v := b + m) dX12_termOf_264 rfl ?_
              refine tz_imul (pc := 265) (v := 3 * (b + m)) dX12_termOf_265 rfl ?_
              refine tz_iconst (pc := 266) dX12_termOf_266 ?_
              refine tz_iadd (pc := 267) (v := (3 * (b + m)) + 2) dX12_termOf_267 rfl ?_
              refine tz_iload (pc := 268) dX12_termOf_268 rfl ?_
              refine tz_iconst (pc := 270) dX12_termOf_270 ?_
              refine tz_icmp_leT (pc := 271) (tgt := 279) (by decide) dX12_termOf_271 (by decide) (by decide) (by decide) ?_
              refine tz_iconst (pc := 279) dX12_termOf_279 ?_
              refine tz_aS (pc := 280) (z := ((3 * (b + m)) + 2)) dX12_termOf_280 a_167 rfl (by omega) (by decide) ?_
              refine tz_aload_n (pc := 281) dX12_termOf_281 rfl rfl ?_
              refine tz_fR (pc := 282) dX12_termOf_282 fl_X12_19 r_164_3 ?_
              refine tz_aload_n (pc := 285) dX12_termOf_285 rfl rfl ?_
              refine tz_fI (pc := 286) (kz := 15) (v := b) dX12_termOf_286 fl_X12_71 i_164_15 rfl hM2 (fun r_286 => ?_)
              refine tz_iload (pc := 289) dX12_termOf_289 rfl ?_
              refine tz_iadd (pc := 291) (v := b + m) dX12_termOf_291 rfl ?_
              refine tz_iload (pc := 292) dX12_termOf_292 rfl ?_
              refine tz_aS (pc := 294) (z := (b + m)) dX12_termOf_294 a_168 rfl (by omega) (by omega) ?_
              refine tz_aload_n (pc := 295) dX12_termOf_295 rfl rfl ?_
              refine tz_fR (pc := 296) dX12_termOf_296 fl_X12_9 r_164_0 ?_
              refine tz_aload_n (pc := 299) dX12_termOf_299 rfl rfl ?_
              refine tz_fI (pc := 300) (kz := 16) (v := r) dX12_termOf_300 fl_X12_85 i_164_16 rfl hM3 (fun r_300 => ?_)
              refine tz_iconst (pc := 303) dX12_termOf_303 ?_
              refine tz_iadd (pc := 304) (v := r) dX12_termOf_304 (Int.add_zero _) ?_
              refine tz_dup2 (pc := 305) dX12_termOf_305 rfl rfl ?_
              refine tz_aL (pc := 306) (z := r) (v := m) dX12_termOf_306 a_165 rfl (by omega) hM5 (fun r_306 => ?_)
              refine tz_iconst (pc := 307) dX12_termOf_307 ?_
              refine tz_iadd (pc := 308) (v := m + 1) dX12_termOf_308 rfl ?_
              refine tz_aS (pc := 309) (z := r) dX12_termOf_309 a_165 rfl (by omega) (by omega) ?_
              refine tz_iload (pc := 310) dX12_termOf_310 rfl ?_
              exact tz_iret (pc := 312) (z := m) dX12_termOf_312 rfl (Nat.le_of_ble_eq_true rfl) (Nat.le_of_ble_eq_true rfl) ⟨Nat.le_refl _, Nat.le_add_right _ _⟩ ⟨_, rfl, (by omega), ⟨m + 1, hM.push (A := 1) (x := x) (y := y) (w := w) (by omega) hh (by unfold arh; rw [if_neg (by omega)]; exact hk.2) (by decide) (fun _ => ⟨rfl, by omega, by omega⟩) (fun g => absurd g (by decide)) (fun g => absurd g (by decide)) (fun q a c => hn q a (by omega)) (by omega) (by omega) h_4, by omega⟩⟩
            · refine tz_iconst (pc := 166) dX12_termOf_166 ?_
              refine tz_goto (pc := 167) (tgt := 171) dX12_termOf_167 (by decide) ?_
              refine tz_pZ (pc := 171) (kz := 21) dX12_termOf_171 fl_X12_92 i_164_21 rfl rfl (Or.inr rfl) ?_
              refine tz_aload_n (pc := 174) dX12_termOf_174 rfl rfl ?_
              refine tz_fI (pc := 175) (kz := 21) (v := 1) dX12_termOf_175 fl_X12_92 i_164_21 rfl rfl (fun _ => ?_)
              refine tz_if_eqF (pc := 178) (tgt := 183) (by decide) dX12_termOf_178 (by decide) (by decide) ?_
              refine tz_iconst (pc := 181) dX12_termOf_181 ?_
              exact tz_iret (pc := 182) (z := 0) dX12_termOf_182 rfl (Nat.le_of_ble_eq_true rfl) (Nat.le_of_ble_eq_true rfl) ⟨Nat.le_refl _, Nat.le_add_right _ _⟩ ⟨_, rfl, (by decide), ⟨m, (MG.rf hM).full (fun q => absurd q (by decide)), by omega⟩⟩
        · refine tz_aload_n (pc := 42) dX12_termOf_42 rfl rfl ?_
          refine tz_iload (pc := 43) dX12_termOf_43 rfl ?_
          refine tz_iload_n (pc := 45) dX12_termOf_45 rfl rfl ?_
          refine tz_iload (pc := 46) dX12_termOf_46 rfl ?_
          refine tz_iload_n (pc := 48) dX12_termOf_48 rfl rfl ?_
          refine tz_iload_n (pc := 49) dX12_termOf_49 rfl rfl ?_
          refine tz_iload (pc := 50) dX12_termOf_50 rfl ?_
          refine tz_cV (pc := 52) (m_isThat hl n _ _ _ _ _ _ _ (by omega) (by omega) (by decide) (by omega) (by omega) (by omega) b r d s m hM (by omega)) vl_X12_100 dX12_termOf_52 o_164 rfl rfl (Nat.le_of_ble_eq_true rfl) ⟨(Nat.le_of_ble_eq_true rfl), (Nat.le_of_ble_eq_true rfl)⟩ rfl rfl (Nat.le_of_ble_eq_true rfl) (Nat.le_of_ble_eq_true rfl) (fun r9 J_52 hq9 => ?_)
          obtain ⟨zi9, rfl, hz_52, rfl, hi1, hi2⟩ := hq9
          refine tz_if_eq (pc := 55) (tgt := 61) dX12_termOf_55 (by decide) (by omega) (fun h_55 => ?_) (fun h_55 => ?_)
          · refine tz_iinc (pc := 61) (z := t + 1) (L2 := [_, _, _, _, _, _, _, _]) dX12_termOf_61 rfl (by omega) rfl ?_
            refine tz_goto (pc := 64) (tgt := 33) dX12_termOf_64 (by decide) ?_
            exact ih33 (t + 1) (by omega) (by omega) (fun q a c => (Decidable.em (q = t)).elim (fun e => by rw [e]; exact fun e9 => by have := hi2.mpr e9; omega) (fun e => hn q a (by omega)))
          · refine tz_iload (pc := 58) dX12_termOf_58 rfl ?_
            exact tz_iret (pc := 60) (z := t) dX12_termOf_60 rfl (Nat.le_of_ble_eq_true rfl) (Nat.le_of_ble_eq_true rfl) ⟨Nat.le_refl _, Nat.le_add_right _ _⟩ ⟨_, rfl, (by omega), ⟨m, MG.rf hM, by omega⟩⟩
    exact loop33 _ 0 (Nat.lt_succ_self _) (by omega) (fun q a c => by omega)
  · refine tz_iconst (pc := 7) dX12_termOf_7 ?_
    exact tz_iret (pc := 8) (z := 0) dX12_termOf_8 rfl (Nat.le_of_ble_eq_true rfl) (Nat.le_of_ble_eq_true rfl) ⟨Nat.le_refl _, Nat.le_add_right _ _⟩ ⟨_, rfl, (by decide), ⟨m, MG.rf hM, by omega⟩⟩

set_option maxHeartbeats 4000000 in
set_option maxRecDepth 100000 in
theorem m_tu2 {l : Launch} {G : tb_G} (hl : l.stackTraces = false) (n : Nat) (J : zJ) (h : Int) (x : Int) (y : Int) (w : Int) (hr_h : -2147483648 ≤ h ∧ h < 2147483648) (hr_x : -2147483648 ≤ x ∧ x < 2147483648) (hr_y : -2147483648 ≤ y ∧ y < 2147483648) (hr_w : -2147483648 ≤ w ∧ w < 2147483648) (b r d s m : Int) (hM : MS J b r d s m) (hh : -8 ≤ h ∧ h < s) (hk : 0 ≤ h ∧ J 170 (d + h) = 2) (hu : J 164 21 = 0 ∨ 0 < m) (hg : (0 < (2 : Int) → 0 ≤ x ∧ x < m) ∧ (1 < (2 : Int) → 0 ≤ y ∧ y < m) ∧ (2 < (2 : Int) → 0 ≤ w ∧ w < m)) : tz_Ok l G M_X12_termOf 2 0 0 [.ref 164, zi h, zi x, zi y, zi w] n J (zqi (fun z J' => ∃ m', MG [] [] (fun _ => false) J' J b r d s m m' ∧ 0 ≤ z ∧ z < m')) zN := by
  refine tz_Ok.of hl (by decide +kernel) rfl (tb_c1 rfl) (Nat.le_of_ble_eq_true rfl) ?_
  show tz_At l G M_X12_termOf (tb_rm 2 0 0) none (tb_ZM G 0 0 (zQ n 0 (zqi (fun z J' => ∃ m', MG [] [] (fun _ => false) J' J b r d s m m' ∧ 0 ≤ z ∧ z < m'))) (zX n 0 zN)) 0 0 n J 0 [some (.ref 164), some (zi h), some (zi x), some (zi y), some (zi w), none, none, none] []
  obtain ⟨hM1, hM2, hM3, hM4, hM5, hM6⟩ := id hM
  have hT := hM.told
  refine tz_aload_n (pc := 0) dX12_termOf_0 rfl rfl ?_
  refine tz_fI (pc := 1) (kz := 21) (v := (J 164 21)) dX12_termOf_1 fl_X12_92 i_164_21 rfl rfl (fun r_1 => ?_)
  refine tz_if_eq (pc := 4) (tgt := 9) dX12_termOf_4 (by decide) (by omega) (fun h_4 => ?_) (fun h_4 => ?_)
  · refine tz_iload_n (pc := 9) dX12_termOf_9 rfl rfl ?_
    refine tz_if_geT (pc := 10) (tgt := 17) (by omega) dX12_termOf_10 (by decide) (by omega) ?_
    refine tz_aload_n (pc := 17) dX12_termOf_17 rfl rfl ?_
    refine tz_fR (pc := 18) dX12_termOf_18 fl_X12_25 r_164_5 ?_
    refine tz_aload_n (pc := 21) dX12_termOf_21 rfl rfl ?_
    refine tz_fI (pc := 22) (kz := 17) (v := d) dX12_termOf_22 fl_X12_82 i_164_17 rfl hM4 (fun r_22 => ?_)
    refine tz_iload_n (pc := 25) dX12_termOf_25 rfl rfl ?_
    refine tz_iadd (pc := 26) (v := d + h) dX12_termOf_26 rfl ?_
    refine tz_aL (pc := 27) (z := (d + h)) (v := 2) dX12_termOf_27 a_170 rfl (by omega) hk.2 (fun _ => ?_)
    refine tz_istore (pc := 28) (L2 := [_, _, _, _, _, _, _, _]) dX12_termOf_28 (by decide) rfl ?_
    refine tz_iconst (pc := 30) dX12_termOf_30 ?_
    refine tz_istore (pc := 31) (L2 := [_, _, _, _, _, _, _, _]) dX12_termOf_31 (by decide) rfl ?_
    have loop33 : ∀ (f9 : Nat) (t : Int), ((m - t).toNat) < f9 → (0 ≤ t ∧ t ≤ m) → (∀ q, 0 ≤ q → q < t → ¬ (J 166 (b + q) = h ∧ (0 < (2 : Int) → J 167 (3 * (b + q) + 0) = x) ∧ (1 < (2 : Int) → J 167 (3 * (b + q) + 1) = y) ∧ (2 < (2 : Int) → J 167 (3 * (b + q) + 2) = w))) → tz_At l G M_X12_termOf (tb_rm 2 0 0) none (tb_ZM G 0 0 (zQ n 0 (zqi (fun z J' => ∃ m', MG [] [] (fun _ => false) J' J b r d s m m' ∧ 0 ≤ z ∧ z < m'))) (zX n 0 zN)) 0 0 n J 33 [some (.ref 164), some (zi h), some (zi x), some (zi y), some (zi w), some (zi 2), some (zi t), none] [] := by
      intro f9
      induction f9 with
      | zero => intro t hm9; exact absurd hm9 (Nat.not_lt_zero _)
      | succ f9 ih33 =>
        intro t hm33 hq hn
        refine tz_iload (pc := 33) dX12_termOf_33 rfl ?_
        refine tz_aload_n (pc := 35) dX12_termOf_35 rfl rfl ?_
        refine tz_cV (pc := 36) (m_many hl n _ b r d s m hM) vl_X12_96 dX12_termOf_36 o_164 rfl rfl (Nat.le_of_ble_eq_true rfl) ⟨(Nat.le_of_ble_eq_true rfl), (Nat.le_of_ble_eq_true rfl)⟩ rfl rfl (Nat.le_of_ble_eq_true rfl) (Nat.le_of_ble_eq_true rfl) (fun r9 J_36 hq9 => ?_)
        obtain ⟨z_36, rfl, hz_36, rfl, rfl⟩ := hq9
        refine tz_icmp_ge (pc := 39) (tgt := 67) dX12_termOf_39 (by decide) (by omega) (by omega) (fun h_39 => ?_) (fun h_39 => ?_)
        · have hz0 := hM.ar (t := x) (by omega)
          have hz1 := hM.ar (t := y) (by omega)
          refine tz_iconst (pc := 67) dX12_termOf_67 ?_
          refine tz_istore (pc := 68) (L2 := [_, _, _, _, _, _, _, _]) dX12_termOf_68 (by decide) rfl ?_
          refine tz_iload (pc := 70) dX12_termOf_70 rfl ?_
          refine tz_if_leF (pc := 72) (tgt := 95) (by decide) dX12_termOf_72 (by decide) (by decide) ?_
          refine tz_iload (pc := 75) dX12_termOf_75 rfl ?_
          refine tz_aload_n (pc := 77) dX12_termOf_77 rfl rfl ?_
          refine tz_fR (pc := 78) dX12_termOf_78 fl_X12_19 r_164_3 ?_
          refine tz_aload_n (pc := 81) dX12_termOf_81 rfl rfl ?_
          refine tz_fI (pc := 82) (kz := 15) (v := b) dX12_termOf_82 fl_X12_71 i_164_15 rfl hM2 (fun r_82 => ?_)
          refine tz_iload_n (pc := 85) dX12_termOf_85 rfl rfl ?_
          refine tz_iadd (pc := 86) (v := b + x) dX12_termOf_86 rfl ?_
          refine tz_aL (pc := 87) (z := (b + x)) (v := (J 168 (b + x))) dX12_termOf_87 a_168 rfl (by omega) rfl (fun r_87 => ?_)
          refine tz_iconst (pc := 88) dX12_termOf_88 ?_
          refine tz_iadd (pc := 89) (v := (J 168 (b + x)) + 1) dX12_termOf_89 rfl ?_
          refine tz_cS (pc := 90) (zm_greater hl n _ _ _ (by decide) (by omega)) sl_X12_104 dX12_termOf_90 rfl rfl (Nat.le_of_ble_eq_true rfl) ⟨(Nat.le_of_ble_eq_true rfl), (Nat.le_of_ble_eq_true rfl)⟩ rfl rfl (Nat.le_of_ble_eq_true rfl) (Nat.le_of_ble_eq_true rfl) (fun r9 J_90 hq9 => ?_)
          obtain ⟨z_90, rfl, hz_90, rfl, hg_90⟩ := hq9
          have gz_90 : (1 ≤ z_90 ∧ ((J 168 (b + x)) + 1) ≤ z_90) ∧ (z_90 = 1 ∨ z_90 = ((J 168 (b + x)) + 1)) := by rw [← hg_90]; split <;> omega
          refine tz_istore (pc := 93) (L2 := [_, _, _, _, _, _, _, _]) dX12_termOf_93 (by decide) rfl ?_
          refine tz_iload (pc := 95) dX12_termOf_95 rfl ?_
          refine tz_iconst (pc := 97) dX12_termOf_97 ?_
          refine tz_icmp_leF (pc := 98) (tgt := 121) (by decide) dX12_termOf_98 (by decide) (by decide) (by decide) ?_
          refine tz_iload (pc := 101) dX12_termOf_101 rfl ?_
          refine tz_aload_n (pc := 103) dX12_termOf_103 rfl rfl ?_
          refine tz_fR (pc := 104) dX12_termOf_104 fl_X12_19 r_164_3 ?_
          refine tz_aload_n (pc := 107) dX12_termOf_107 rfl rfl ?_
          refine tz_fI (pc := 108) (kz := 15) (v := b) dX12_termOf_108 fl_X12_71 i_164_15 rfl hM2 (fun r_108 => ?_)
          refine tz_iload_n (pc := 111) dX12_termOf_111 rfl rfl ?_
          refine tz_iadd (pc := 112) (v := b + y) dX12_termOf_112 rfl ?_
          refine tz_aL (pc := 113) (z := (b + y)) (v := (J 168 (b + y))) dX12_termOf_113 a_168 rfl (by omega) rfl (fun r_113 => ?_)
          refine tz_iconst (pc := 114) dX12_termOf_114 ?_
          refine tz_iadd (pc := 115) (v := (J 168 (b + y)) + 1) dX12_termOf_115 rfl ?_
          refine tz_cS (pc := 116) (zm_greater hl n _ _ _ (by omega) (by omega)) sl_X12_104 dX12_termOf_116 rfl rfl (Nat.le_of_ble_eq_true rfl) ⟨(Nat.le_of_ble_eq_true rfl), (Nat.le_of_ble_eq_true rfl)⟩ rfl rfl (Nat.le_of_ble_eq_true rfl) (Nat.le_of_ble_eq_true rfl) (fun r9 J_116 hq9 => ?_)
          obtain ⟨z_116, rfl, hz_116, rfl, hg_116⟩ := hq9
          have gz_116 : (z_90 ≤ z_116 ∧ ((J 168 (b + y)) + 1) ≤ z_116) ∧ (z_116 = z_90 ∨ z_116 = ((J 168 (b + y)) + 1)) := by rw [← hg_116]; split <;> omega
          refine tz_istore (pc := 119) (L2 := [_, _, _, _, _, _, _, _]) dX12_termOf_119 (by decide) rfl ?_
          refine tz_iload (pc := 121) dX12_termOf_121 rfl ?_
          refine tz_iconst (pc := 123) dX12_termOf_123 ?_
          refine tz_icmp_leT (pc := 124) (tgt := 148) (by decide) dX12_termOf_124 (by decide) (by decide) (by decide) ?_
          refine tz_aload_n (pc := 148) dX12_termOf_148 rfl rfl ?_
          refine tz_iload (pc := 149) dX12_termOf_149 rfl ?_
          refine tz_bipush (pc := 151) dX12_termOf_151 (by decide) ?_
          refine tz_icmp_gt (pc := 153) (tgt := 166) dX12_termOf_153 (by decide) (by omega) (by decide) (fun h_153 => ?_) (fun h_153 => ?_)
          · refine tz_iconst (pc := 166) dX12_termOf_166 ?_
            refine tz_goto (pc := 167) (tgt := 171) dX12_termOf_167 (by decide) ?_
            refine tz_pZ (pc := 171) (kz := 21) dX12_termOf_171 fl_X12_92 i_164_21 rfl rfl (Or.inr rfl) ?_
            refine tz_aload_n (pc := 174) dX12_termOf_174 rfl rfl ?_
            refine tz_fI (pc := 175) (kz := 21) (v := 1) dX12_termOf_175 fl_X12_92 i_164_21 rfl rfl (fun _ => ?_)
            refine tz_if_eqF (pc := 178) (tgt := 183) (by decide) dX12_termOf_178 (by decide) (by decide) ?_
            refine tz_iconst (pc := 181) dX12_termOf_181 ?_
            exact tz_iret (pc := 182) (z := 0) dX12_termOf_182 rfl (Nat.le_of_ble_eq_true rfl) (Nat.le_of_ble_eq_true rfl) ⟨Nat.le_refl _, Nat.le_add_right _ _⟩ ⟨_, rfl, (by decide), ⟨m, (MG.rf hM).full (fun q => absurd q (by decide)), by omega⟩⟩
          · refine tz_aload_n (pc := 156) dX12_termOf_156 rfl rfl ?_
            refine tz_cV (pc := 157) (m_many hl n _ b r d s m hM) vl_X12_96 dX12_termOf_157 o_164 rfl rfl (Nat.le_of_ble_eq_true rfl) ⟨(Nat.le_of_ble_eq_true rfl), (Nat.le_of_ble_eq_true rfl)⟩ rfl rfl (Nat.le_of_ble_eq_true rfl) (Nat.le_of_ble_eq_true rfl) (fun r9 J_157 hq9 => ?_)
            obtain ⟨z_157, rfl, hz_157, rfl, rfl⟩ := hq9
            refine tz_sipush (pc := 160) dX12_termOf_160 (by decide) ?_
            refine tz_icmp_ne (pc := 163) (tgt := 170) dX12_termOf_163 (by decide) (by omega) (by decide) (fun h_163 => ?_) (fun h_163 => ?_)
            · refine tz_iconst (pc := 170) dX12_termOf_170 ?_
              refine tz_pZ (pc := 171) (kz := 21) dX12_termOf_171 fl_X12_92 i_164_21 rfl rfl (Or.inl rfl) ?_
              refine tz_aload_n (pc := 174) dX12_termOf_174 rfl rfl ?_
              refine tz_fI (pc := 175) (kz := 21) (v := 0) dX12_termOf_175 fl_X12_92 i_164_21 rfl rfl (fun _ => ?_)
              refine tz_if_eqT (pc := 178) (tgt := 183) (by decide) dX12_termOf_178 (by decide) (by decide) ?_
              refine tz_aload_n (pc := 183) dX12_termOf_183 rfl rfl ?_
              refine tz_cV (pc := 184) (m_many hl n _ b r d s m (hM.of ⟨zup_ne (by decide), zup_ne (by decide), zup_ne (by decide)⟩ rfl rfl rfl rfl rfl)) vl_X12_96 dX12_termOf_184 o_164 rfl rfl (Nat.le_of_ble_eq_true rfl) ⟨(Nat.le_of_ble_eq_true rfl), (Nat.le_of_ble_eq_true rfl)⟩ rfl rfl (Nat.le_of_ble_eq_true rfl) (Nat.le_of_ble_eq_true rfl) (fun r9 J_184 hq9 => ?_)
              obtain ⟨z_184, rfl, hz_184, rfl, rfl⟩ := hq9
              refine tz_istore (pc := 187) (L2 := [_, _, _, _, _, _, _, _]) dX12_termOf_187 (by decide) rfl ?_
              refine tz_aload_n (pc := 189) dX12_termOf_189 rfl rfl ?_
              refine tz_fR (pc := 190) dX12_termOf_190 fl_X12_13 r_164_1 ?_
              refine tz_aload_n (pc := 193) dX12_termOf_193 rfl rfl ?_
              refine tz_fI (pc := 194) (kz := 15) (v := b) dX12_termOf_194 fl_X12_71 i_164_15 rfl hM2 (fun r_194 => ?_)
              refine tz_iload (pc := 197) dX12_termOf_197 rfl ?_
              refine tz_iadd (pc := 199) (v := b + m) dX12_termOf_199 rfl ?_
              refine tz_iload_n (pc := 200) dX12_termOf_200 rfl rfl ?_
              refine tz_aS (pc := 201) (z := (b + m)) dX12_termOf_201 a_166 rfl (by omega) (by omega) ?_
              refine tz_aload_n (pc := 202) dX12_termOf_202 rfl rfl ?_
              refine tz_fR (pc := 203) dX12_termOf_203 fl_X12_16 r_164_2 ?_
              refine tz_iconst (pc := 206) dX12_termOf_206 ?_
              refine tz_aload_n (pc := 207) dX12_termOf_207 rfl rfl ?_
              refine tz_fI (pc := 208) (kz := 15) (v := b) dX12_termOf_208 fl_X12_71 i_164_15 rfl hM2 (fun r_208 => ?_)
              refine tz_iload (pc := 211) dX12_termOf_211 rfl ?_
              refine tz_iadd (pc := 213) (v := b + m) dX12_termOf_213 rfl ?_
              refine tz_imul (pc := 214) (v := 3 * (b + m)) dX12_termOf_214 rfl ?_
              refine tz_iload (pc := 215) dX12_termOf_215 rfl ?_
              refine tz_if_leF (pc := 217) (tgt := 224) (by decide) dX12_termOf_217 (by decide) (by decide) ?_
              refine tz_iload_n (pc := 220) dX12_termOf_220 rfl rfl ?_
              refine tz_goto (pc := 221) (tgt := 225) dX12_termOf_221 (by decide) ?_
              refine tz_aS (pc := 225) (z := (3 * (b + m))) dX12_termOf_225 a_167 rfl (by omega) (by omega) ?_
              refine tz_aload_n (pc := 226) dX12_termOf_226 rfl rfl ?_
              refine tz_fR (pc := 227) dX12_termOf_227 fl_X12_16 r_164_2 ?_
              refine tz_iconst (pc := 230) dX12_termOf_230 ?_
              refine tz_aload_n (pc := 231) dX12_termOf_231 rfl rfl ?_
              refine tz_fI (pc := 232) (kz := 15) (v := b) dX12_termOf_232 fl_X12_71 i_164_15 rfl hM2 (fun r_232 => ?_)
              refine tz_iload (pc := 235) dX12_termOf_235 rfl ?_
              refine tz_iadd (pc := 237) (v := b + m) dX12_termOf_237 rfl ?_
              refine tz_imul (pc := 238) (v := 3 * (b + m)) dX12_termOf_238 rfl ?_
              refine tz_iconst (pc := 239) dX12_termOf_239 ?_
              refine tz_iadd (pc := 240) (v := (3 * (b + m)) + 1) dX12_termOf_240 rfl ?_
              refine tz_iload (pc := 241) dX12_termOf_241 rfl ?_
              refine tz_iconst (pc := 243) dX12_termOf_243 ?_
              refine tz_icmp_leF (pc := 244) (tgt := 251) (by decide) dX12_termOf_244 (by decide) (by decide) (by decide) ?_
              refine tz_iload_n (pc := 247) dX12_termOf_247 rfl rfl ?_
              refine tz_goto (pc := 248) (tgt := 252) dX12_termOf_248 (by decide) ?_
              refine tz_aS (pc := 252) (z := ((3 * (b + m)) + 1)) dX12_termOf_252 a_167 rfl (by omega) (by omega) ?_
              refine tz_aload_n (pc := 253) dX12_termOf_253 rfl rfl ?_
              refine tz_fR (pc := 254) dX12_termOf_254 fl_X12_16 r_164_2 ?_
              refine tz_iconst (pc := 257) dX12_termOf_257 ?_
              refine tz_aload_n (pc := 258) dX12_termOf_258 rfl rfl ?_
              refine tz_fI (pc := 259) (kz := 15) (v := b) dX12_termOf_259 fl_X12_71 i_164_15 rfl hM2 (fun r_259 => ?_)
              refine tz_iload (pc := 262) dX12_termOf_262 rfl ?_
              refine tz_iadd (pc := 264) (v := b + m) dX12_termOf_264 rfl ?_
              refine tz_imul (pc := 265) (v := 3 * (b + m)) dX12_termOf_265 rfl ?_
              refine tz_iconst (pc := 266) dX12_termOf_266 ?_
              refine tz_iadd (pc := 267) (v := (3 * (b + m)) + 2) dX12_termOf_267 rfl ?_
              refine tz_iload (pc := 268) dX12_termOf_268 rfl ?_
              refine tz_iconst (pc := 270) dX12_termOf_270 ?_
              refine tz_icmp_leT (pc := 271) (tgt := 279) (by decide) dX12_termOf_271 (by decide) (by decide) (by decide) ?_
              refine tz_iconst (pc := 279) dX12_termOf_279 ?_
              refine tz_aS (pc := 280) (z := ((3 * (b + m)) + 2)) dX12_termOf_280 a_167 rfl (by omega) (by decide) ?_
              refine tz_aload_n (pc := 281) dX12_termOf_281 rfl rfl ?_
              refine tz_fR (pc := 282) dX12_termOf_282 fl_X12_19 r_164_3 ?_
              refine tz_aload_n (pc := 285) dX12_termOf_285 rfl rfl ?_
              refine tz_fI (pc := 286) (kz := 15) (v := b) dX12_termOf_286 fl_X12_71 i_164_15 rfl hM2 (fun r_286 => ?_)
              refine tz_iload (pc := 289) dX12_termOf_289 rfl ?_
              refine tz_iadd (pc := 291) (v := b + m) dX12_termOf_291 rfl ?_
              refine tz_iload (pc := 292) dX12_termOf_292 rfl ?_
              refine tz_aS (pc := 294) (z := (b + m)) dX12_termOf_294 a_168 rfl (by omega) (by omega) ?_
              refine tz_aload_n (pc := 295) dX12_termOf_295 rfl rfl ?_
              refine tz_fR (pc := 296) dX12_termOf_296 fl_X12_9 r_164_0 ?_
              refine tz_aload_n (pc := 299) dX12_termOf_299 rfl rfl ?_
              refine tz_fI (pc := 300) (kz := 16) (v := r) dX12_termOf_300 fl_X12_85 i_164_16 rfl hM3 (fun r_300 => ?_)
              refine tz_iconst (pc := 303) dX12_termOf_303 ?_
              refine tz_iadd (pc := 304) (v := r) dX12_termOf_304 (Int.add_zero _) ?_
              refine tz_dup2 (pc := 305) dX12_termOf_305 rfl rfl ?_
              refine tz_aL (pc := 306) (z := r) (v := m) dX12_termOf_306 a_165 rfl (by omega) hM5 (fun r_306 => ?_)
              refine tz_iconst (pc := 307) dX12_termOf_307 ?_
              refine tz_iadd (pc := 308) (v := m + 1) dX12_termOf_308 rfl ?_
              refine tz_aS (pc := 309) (z := r) dX12_termOf_309 a_165 rfl (by omega) (by omega) ?_
              refine tz_iload (pc := 310) dX12_termOf_310 rfl ?_
              exact tz_iret (pc := 312) (z := m) dX12_termOf_312 rfl (Nat.le_of_ble_eq_true rfl) (Nat.le_of_ble_eq_true rfl) ⟨Nat.le_refl _, Nat.le_add_right _ _⟩ ⟨_, rfl, (by omega), ⟨m + 1, hM.push (A := 2) (x := x) (y := y) (w := w) (by omega) hh (by unfold arh; rw [if_neg (by omega)]; exact hk.2) (by decide) (fun _ => ⟨rfl, by omega, by omega⟩) (fun _ => ⟨rfl, by omega, by omega⟩) (fun g => absurd g (by decide)) (fun q a c => hn q a (by omega)) (by omega) (by omega) h_4, by omega⟩⟩
            · refine tz_iconst (pc := 166) dX12_termOf_166 ?_
              refine tz_goto (pc := 167) (tgt := 171) dX12_termOf_167 (by decide) ?_
              refine tz_pZ (pc := 171) (kz := 21) dX12_termOf_171 fl_X12_92 i_164_21 rfl rfl (Or.inr rfl) ?_
              refine tz_aload_n (pc := 174) dX12_termOf_174 rfl rfl ?_
              refine tz_fI (pc := 175) (kz := 21) (v := 1) dX12_termOf_175 fl_X12_92 i_164_21 rfl rfl (fun _ => ?_)
              refine tz_if_eqF (pc := 178) (tgt := 183) (by decide) dX12_termOf_178 (by decide) (by decide) ?_
              refine tz_iconst (pc := 181) dX12_termOf_181 ?_
              exact tz_iret (pc := 182) (z := 0) dX12_termOf_182 rfl (Nat.le_of_ble_eq_true rfl) (Nat.le_of_ble_eq_true rfl) ⟨Nat.le_refl _, Nat.le_add_right _ _⟩ ⟨_, rfl, (by decide), ⟨m, (MG.rf hM).full (fun q => absurd q (by decide)), by omega⟩⟩
        · refine tz_aload_n (pc := 42) dX12_termOf_42 rfl rfl ?_
          refine tz_iload (pc := 43) dX12_termOf_43 rfl ?_
          refine tz_iload_n (pc := 45) dX12_termOf_45 rfl rfl ?_
          refine tz_iload (pc := 46) dX12_termOf_46 rfl ?_
          refine tz_iload_n (pc := 48) dX12_termOf_48 rfl rfl ?_
          refine tz_iload_n (pc := 49) dX12_termOf_49 rfl rfl ?_
          refine tz_iload (pc := 50) dX12_termOf_50 rfl ?_
          refine tz_cV (pc := 52) (m_isThat hl n _ _ _ _ _ _ _ (by omega) (by omega) (by decide) (by omega) (by omega) (by omega) b r d s m hM (by omega)) vl_X12_100 dX12_termOf_52 o_164 rfl rfl (Nat.le_of_ble_eq_true rfl) ⟨(Nat.le_of_ble_eq_true rfl), (Nat.le_of_ble_eq_true rfl)⟩ rfl rfl (Nat.le_of_ble_eq_true rfl) (Nat.le_of_ble_eq_true rfl) (fun r9 J_52 hq9 => ?_)
          obtain ⟨zi9, rfl, hz_52, rfl, hi1, hi2⟩ := hq9
          refine tz_if_eq (pc := 55) (tgt := 61) dX12_termOf_55 (by decide) (by omega) (fun h_55 => ?_) (fun h_55 => ?_)
          · refine tz_iinc (pc := 61) (z := t + 1) (L2 := [_, _, _, _, _, _, _, _]) dX12_termOf_61 rfl (by omega) rfl ?_
            refine tz_goto (pc := 64) (tgt := 33) dX12_termOf_64 (by decide) ?_
            exact ih33 (t + 1) (by omega) (by omega) (fun q a c => (Decidable.em (q = t)).elim (fun e => by rw [e]; exact fun e9 => by have := hi2.mpr e9; omega) (fun e => hn q a (by omega)))
          · refine tz_iload (pc := 58) dX12_termOf_58 rfl ?_
            exact tz_iret (pc := 60) (z := t) dX12_termOf_60 rfl (Nat.le_of_ble_eq_true rfl) (Nat.le_of_ble_eq_true rfl) ⟨Nat.le_refl _, Nat.le_add_right _ _⟩ ⟨_, rfl, (by omega), ⟨m, MG.rf hM, by omega⟩⟩
    exact loop33 _ 0 (Nat.lt_succ_self _) (by omega) (fun q a c => by omega)
  · refine tz_iconst (pc := 7) dX12_termOf_7 ?_
    exact tz_iret (pc := 8) (z := 0) dX12_termOf_8 rfl (Nat.le_of_ble_eq_true rfl) (Nat.le_of_ble_eq_true rfl) ⟨Nat.le_refl _, Nat.le_add_right _ _⟩ ⟨_, rfl, (by decide), ⟨m, MG.rf hM, by omega⟩⟩

set_option maxHeartbeats 4000000 in
set_option maxRecDepth 100000 in
theorem m_tu3 {l : Launch} {G : tb_G} (hl : l.stackTraces = false) (n : Nat) (J : zJ) (h : Int) (x : Int) (y : Int) (w : Int) (hr_h : -2147483648 ≤ h ∧ h < 2147483648) (hr_x : -2147483648 ≤ x ∧ x < 2147483648) (hr_y : -2147483648 ≤ y ∧ y < 2147483648) (hr_w : -2147483648 ≤ w ∧ w < 2147483648) (b r d s m : Int) (hM : MS J b r d s m) (hh : -8 ≤ h ∧ h < s) (hk : 0 ≤ h ∧ J 170 (d + h) = 3) (hu : J 164 21 = 0 ∨ 0 < m) (hg : (0 < (3 : Int) → 0 ≤ x ∧ x < m) ∧ (1 < (3 : Int) → 0 ≤ y ∧ y < m) ∧ (2 < (3 : Int) → 0 ≤ w ∧ w < m)) : tz_Ok l G M_X12_termOf 2 0 0 [.ref 164, zi h, zi x, zi y, zi w] n J (zqi (fun z J' => ∃ m', MG [] [] (fun _ => false) J' J b r d s m m' ∧ 0 ≤ z ∧ z < m')) zN := by
  refine tz_Ok.of hl (by decide +kernel) rfl (tb_c1 rfl) (Nat.le_of_ble_eq_true rfl) ?_
  show tz_At l G M_X12_termOf (tb_rm 2 0 0) none (tb_ZM G 0 0 (zQ n 0 (zqi (fun z J' => ∃ m', MG [] [] (fun _ => false) J' J b r d s m m' ∧ 0 ≤ z ∧ z < m'))) (zX n 0 zN)) 0 0 n J 0 [some (.ref 164), some (zi h), some (zi x), some (zi y), some (zi w), none, none, none] []
  obtain ⟨hM1, hM2, hM3, hM4, hM5, hM6⟩ := id hM
  have hT := hM.told
  refine tz_aload_n (pc := 0) dX12_termOf_0 rfl rfl ?_
  refine tz_fI (pc := 1) (kz := 21) (v := (J 164 21)) dX12_termOf_1 fl_X12_92 i_164_21 rfl rfl (fun r_1 => ?_)
  refine tz_if_eq (pc := 4) (tgt := 9) dX12_termOf_4 (by decide) (by omega) (fun h_4 => ?_) (fun h_4 => ?_)
  · refine tz_iload_n (pc := 9) dX12_termOf_9 rfl rfl ?_
    refine tz_if_geT (pc := 10) (tgt := 17) (by omega) dX12_termOf_10 (by decide) (by omega) ?_
    refine tz_aload_n (pc := 17) dX12_termOf_17 rfl rfl ?_
    refine tz_fR (pc := 18) dX12_termOf_18 fl_X12_25 r_164_5 ?_
    refine tz_aload_n (pc := 21) dX12_termOf_21 rfl rfl ?_
    refine tz_fI (pc := 22) (kz := 17) (v := d) dX12_termOf_22 fl_X12_82 i_164_17 rfl hM4 (fun r_22 => ?_)
    refine tz_iload_n (pc := 25) dX12_termOf_25 rfl rfl ?_
    refine tz_iadd (pc := 26) (v := d + h) dX12_termOf_26 rfl ?_
    refine tz_aL (pc := 27) (z := (d + h)) (v := 3) dX12_termOf_27 a_170 rfl (by omega) hk.2 (fun _ => ?_)
    refine tz_istore (pc := 28) (L2 := [_, _, _, _, _, _, _, _]) dX12_termOf_28 (by decide) rfl ?_
    refine tz_iconst (pc := 30) dX12_termOf_30 ?_
    refine tz_istore (pc := 31) (L2 := [_, _, _, _, _, _, _, _]) dX12_termOf_31 (by decide) rfl ?_
    have loop33 : ∀ (f9 : Nat) (t : Int), ((m - t).toNat) < f9 → (0 ≤ t ∧ t ≤ m) → (∀ q, 0 ≤ q → q < t → ¬ (J 166 (b + q) = h ∧ (0 < (3 : Int) → J 167 (3 * (b + q) + 0) = x) ∧ (1 < (3 : Int) → J 167 (3 * (b + q) + 1) = y) ∧ (2 < (3 : Int) → J 167 (3 * (b + q) + 2) = w))) → tz_At l G M_X12_termOf (tb_rm 2 0 0) none (tb_ZM G 0 0 (zQ n 0 (zqi (fun z J' => ∃ m', MG [] [] (fun _ => false) J' J b r d s m m' ∧ 0 ≤ z ∧ z < m'))) (zX n 0 zN)) 0 0 n J 33 [some (.ref 164), some (zi h), some (zi x), some (zi y), some (zi w), some (zi 3), some (zi t), none] [] := by
      intro f9
      induction f9 with
      | zero => intro t hm9; exact absurd hm9 (Nat.not_lt_zero _)
      | succ f9 ih33 =>
        intro t hm33 hq hn
        refine tz_iload (pc := 33) dX12_termOf_33 rfl ?_
        refine tz_aload_n (pc := 35) dX12_termOf_35 rfl rfl ?_
        refine tz_cV (pc := 36) (m_many hl n _ b r d s m hM) vl_X12_96 dX12_termOf_36 o_164 rfl rfl (Nat.le_of_ble_eq_true rfl) ⟨(Nat.le_of_ble_eq_true rfl), (Nat.le_of_ble_eq_true rfl)⟩ rfl rfl (Nat.le_of_ble_eq_true rfl) (Nat.le_of_ble_eq_true rfl) (fun r9 J_36 hq9 => ?_)
        obtain ⟨z_36, rfl, hz_36, rfl, rfl⟩ := hq9
        refine tz_icmp_ge (pc := 39) (tgt := 67) dX12_termOf_39 (by decide) (by omega) (by omega) (fun h_39 => ?_) (fun h_39 => ?_)
        · have hz0 := hM.ar (t := x) (by omega)
          have hz1 := hM.ar (t := y) (by omega)
          have hz2 := hM.ar (t := w) (by omega)
          refine tz_iconst (pc := 67) dX12_termOf_67 ?_
          refine tz_istore (pc := 68) (L2 := [_, _, _, _, _, _, _, _]) dX12_termOf_68 (by decide) rfl ?_
          refine tz_iload (pc := 70) dX12_termOf_70 rfl ?_
          refine tz_if_leF (pc := 72) (tgt := 95) (by decide) dX12_termOf_72 (by decide) (by decide) ?_
          refine tz_iload (pc := 75) dX12_termOf_75 rfl ?_
          refine tz_aload_n (pc := 77) dX12_termOf_77 rfl rfl ?_
          refine tz_fR (pc := 78) dX12_termOf_78 fl_X12_19 r_164_3 ?_
          refine tz_aload_n (pc := 81) dX12_termOf_81 rfl rfl ?_
          refine tz_fI (pc := 82) (kz := 15) (v := b) dX12_termOf_82 fl_X12_71 i_164_15 rfl hM2 (fun r_82 => ?_)
          refine tz_iload_n (pc := 85) dX12_termOf_85 rfl rfl ?_
          refine tz_iadd (pc := 86) (v := b + x) dX12_termOf_86 rfl ?_
          refine tz_aL (pc := 87) (z := (b + x)) (v := (J 168 (b + x))) dX12_termOf_87 a_168 rfl (by omega) rfl (fun r_87 => ?_)
          refine tz_iconst (pc := 88) dX12_termOf_88 ?_
          refine tz_iadd (pc := 89) (v := (J 168 (b + x)) + 1) dX12_termOf_89 rfl ?_
          refine tz_cS (pc := 90) (zm_greater hl n _ _ _ (by decide) (by omega)) sl_X12_104 dX12_termOf_90 rfl rfl (Nat.le_of_ble_eq_true rfl) ⟨(Nat.le_of_ble_eq_true rfl), (Nat.le_of_ble_eq_true rfl)⟩ rfl rfl (Nat.le_of_ble_eq_true rfl) (Nat.le_of_ble_eq_true rfl) (fun r9 J_90 hq9 => ?_)
          obtain ⟨z_90, rfl, hz_90, rfl, hg_90⟩ := hq9
          have gz_90 : (1 ≤ z_90 ∧ ((J 168 (b + x)) + 1) ≤ z_90) ∧ (z_90 = 1 ∨ z_90 = ((J 168 (b + x)) + 1)) := by rw [← hg_90]; split <;> omega
          refine tz_istore (pc := 93) (L2 := [_, _, _, _, _, _, _, _]) dX12_termOf_93 (by decide) rfl ?_
          refine tz_iload (pc := 95) dX12_termOf_95 rfl ?_
          refine tz_iconst (pc := 97) dX12_termOf_97 ?_
          refine tz_icmp_leF (pc := 98) (tgt := 121) (by decide) dX12_termOf_98 (by decide) (by decide) (by decide) ?_
          refine tz_iload (pc := 101) dX12_termOf_101 rfl ?_
          refine tz_aload_n (pc := 103) dX12_termOf_103 rfl rfl ?_
          refine tz_fR (pc := 104) dX12_termOf_104 fl_X12_19 r_164_3 ?_
          refine tz_aload_n (pc := 107) dX12_termOf_107 rfl rfl ?_
          refine tz_fI (pc := 108) (kz := 15) (v := b) dX12_termOf_108 fl_X12_71 i_164_15 rfl hM2 (fun r_108 => ?_)
          refine tz_iload_n (pc := 111) dX12_termOf_111 rfl rfl ?_
          refine tz_iadd (pc := 112) (v := b + y) dX12_termOf_112 rfl ?_
          refine tz_aL (pc := 113) (z := (b + y)) (v := (J 168 (b + y))) dX12_termOf_113 a_168 rfl (by omega) rfl (fun r_113 => ?_)
          refine tz_iconst (pc := 114) dX12_termOf_114 ?_
          refine tz_iadd (pc := 115) (v := (J 168 (b + y)) + 1) dX12_termOf_115 rfl ?_
          refine tz_cS (pc := 116) (zm_greater hl n _ _ _ (by omega) (by omega)) sl_X12_104 dX12_termOf_116 rfl rfl (Nat.le_of_ble_eq_true rfl) ⟨(Nat.le_of_ble_eq_true rfl), (Nat.le_of_ble_eq_true rfl)⟩ rfl rfl (Nat.le_of_ble_eq_true rfl) (Nat.le_of_ble_eq_true rfl) (fun r9 J_116 hq9 => ?_)
          obtain ⟨z_116, rfl, hz_116, rfl, hg_116⟩ := hq9
          have gz_116 : (z_90 ≤ z_116 ∧ ((J 168 (b + y)) + 1) ≤ z_116) ∧ (z_116 = z_90 ∨ z_116 = ((J 168 (b + y)) + 1)) := by rw [← hg_116]; split <;> omega
          refine tz_istore (pc := 119) (L2 := [_, _, _, _, _, _, _, _]) dX12_termOf_119 (by decide) rfl ?_
          refine tz_iload (pc := 121) dX12_termOf_121 rfl ?_
          refine tz_iconst (pc := 123) dX12_termOf_123 ?_
          refine tz_icmp_leF (pc := 124) (tgt := 148) (by decide) dX12_termOf_124 (by decide) (by decide) (by decide) ?_
          refine tz_iload (pc := 127) dX12_termOf_127 rfl ?_
          refine tz_aload_n (pc := 129) dX12_termOf_129 rfl rfl ?_
          refine tz_fR (pc := 130) dX12_termOf_130 fl_X12_19 r_164_3 ?_
          refine tz_aload_n (pc := 133) dX12_termOf_133 rfl rfl ?_
          refine tz_fI (pc := 134) (kz := 15) (v := b) dX12_termOf_134 fl_X12_71 i_164_15 rfl hM2 (fun r_134 => ?_)
          refine tz_iload (pc := 137) dX12_termOf_137 rfl ?_
          refine tz_iadd (pc := 139) (v := b + w) dX12_termOf_139 rfl ?_
          refine tz_aL (pc := 140) (z := (b + w)) (v := (J 168 (b + w))) dX12_termOf_140 a_168 rfl (by omega) rfl (fun r_140 => ?_)
          refine tz_iconst (pc := 141) dX12_termOf_141 ?_
          refine tz_iadd (pc := 142) (v := (J 168 (b + w)) + 1) dX12_termOf_142 rfl ?_
          refine tz_cS (pc := 143) (zm_greater hl n _ _ _ (by omega) (by omega)) sl_X12_104 dX12_termOf_143 rfl rfl (Nat.le_of_ble_eq_true rfl) ⟨(Nat.le_of_ble_eq_true rfl), (Nat.le_of_ble_eq_true rfl)⟩ rfl rfl (Nat.le_of_ble_eq_true rfl) (Nat.le_of_ble_eq_true rfl) (fun r9 J_143 hq9 => ?_)
          obtain ⟨z_143, rfl, hz_143, rfl, hg_143⟩ := hq9
          have gz_143 : (z_116 ≤ z_143 ∧ ((J 168 (b + w)) + 1) ≤ z_143) ∧ (z_143 = z_116 ∨ z_143 = ((J 168 (b + w)) + 1)) := by rw [← hg_143]; split <;> omega
          refine tz_istore (pc := 146) (L2 := [_, _, _, _, _, _, _, _]) dX12_termOf_146 (by decide) rfl ?_
          refine tz_aload_n (pc := 148) dX12_termOf_148 rfl rfl ?_
          refine tz_iload (pc := 149) dX12_termOf_149 rfl ?_
          refine tz_bipush (pc := 151) dX12_termOf_151 (by decide) ?_
          refine tz_icmp_gt (pc := 153) (tgt := 166) dX12_termOf_153 (by decide) (by omega) (by decide) (fun h_153 => ?_) (fun h_153 => ?_)
          · refine tz_iconst (pc := 166) dX12_termOf_166 ?_
            refine tz_goto (pc := 167) (tgt := 171) dX12_termOf_167 (by decide) ?_
            refine tz_pZ (pc := 171) (kz := 21) dX12_termOf_171 fl_X12_92 i_164_21 rfl rfl (Or.inr rfl) ?_
            refine tz_aload_n (pc := 174) dX12_termOf_174 rfl rfl ?_
            refine tz_fI (pc := 175) (kz := 21) (v := 1) dX12_termOf_175 fl_X12_92 i_164_21 rfl rfl (fun _ => ?_)
            refine tz_if_eqF (pc := 178) (tgt := 183) (by decide) dX12_termOf_178 (by decide) (by decide) ?_
            refine tz_iconst (pc := 181) dX12_termOf_181 ?_
            exact tz_iret (pc := 182) (z := 0) dX12_termOf_182 rfl (Nat.le_of_ble_eq_true rfl) (Nat.le_of_ble_eq_true rfl) ⟨Nat.le_refl _, Nat.le_add_right _ _⟩ ⟨_, rfl, (by decide), ⟨m, (MG.rf hM).full (fun q => absurd q (by decide)), by omega⟩⟩
          · refine tz_aload_n (pc := 156) dX12_termOf_156 rfl rfl ?_
            refine tz_cV (pc := 157) (m_many hl n _ b r d s m hM) vl_X12_96 dX12_termOf_157 o_164 rfl rfl (Nat.le_of_ble_eq_true rfl) ⟨(Nat.le_of_ble_eq_true rfl), (Nat.le_of_ble_eq_true rfl)⟩ rfl rfl (Nat.le_of_ble_eq_true rfl) (Nat.le_of_ble_eq_true rfl) (fun r9 J_157 hq9 => ?_)
            obtain ⟨z_157, rfl, hz_157, rfl, rfl⟩ := hq9
            refine tz_sipush (pc := 160) dX12_termOf_160 (by decide) ?_
            refine tz_icmp_ne (pc := 163) (tgt := 170) dX12_termOf_163 (by decide) (by omega) (by decide) (fun h_163 => ?_) (fun h_163 => ?_)
            · refine tz_iconst (pc := 170) dX12_termOf_170 ?_
              refine tz_pZ (pc := 171) (kz := 21) dX12_termOf_171 fl_X12_92 i_164_21 rfl rfl (Or.inl rfl) ?_
              refine tz_aload_n (pc := 174) dX12_termOf_174 rfl rfl ?_
              refine tz_fI (pc := 175) (kz := 21) (v := 0) dX12_termOf_175 fl_X12_92 i_164_21 rfl rfl (fun _ => ?_)
              refine tz_if_eqT (pc := 178) (tgt := 183) (by decide) dX12_termOf_178 (by decide) (by decide) ?_
              refine tz_aload_n (pc := 183) dX12_termOf_183 rfl rfl ?_
              refine tz_cV (pc := 184) (m_many hl n _ b r d s m (hM.of ⟨zup_ne (by decide), zup_ne (by decide), zup_ne (by decide)⟩ rfl rfl rfl rfl rfl)) vl_X12_96 dX12_termOf_184 o_164 rfl rfl (Nat.le_of_ble_eq_true rfl) ⟨(Nat.le_of_ble_eq_true rfl), (Nat.le_of_ble_eq_true rfl)⟩ rfl rfl (Nat.le_of_ble_eq_true rfl) (Nat.le_of_ble_eq_true rfl) (fun r9 J_184 hq9 => ?_)
              obtain ⟨z_184, rfl, hz_184, rfl, rfl⟩ := hq9
              refine tz_istore (pc := 187) (L2 := [_, _, _, _, _, _, _, _]) dX12_termOf_187 (by decide) rfl ?_
              refine tz_aload_n (pc := 189) dX12_termOf_189 rfl rfl ?_
              refine tz_fR (pc := 190) dX12_termOf_190 fl_X12_13 r_164_1 ?_
              refine tz_aload_n (pc := 193) dX12_termOf_193 rfl rfl ?_
              refine tz_fI (pc := 194) (kz := 15) (v := b) dX12_termOf_194 fl_X12_71 i_164_15 rfl hM2 (fun r_194 => ?_)
              refine tz_iload (pc := 197) dX12_termOf_197 rfl ?_
              refine tz_iadd (pc := 199) (v := b + m) dX12_termOf_199 rfl ?_
              refine tz_iload_n (pc := 200) dX12_termOf_200 rfl rfl ?_
              refine tz_aS (pc := 201) (z := (b + m)) dX12_termOf_201 a_166 rfl (by omega) (by omega) ?_
              refine tz_aload_n (pc := 202) dX12_termOf_202 rfl rfl ?_
              refine tz_fR (pc := 203) dX12_termOf_203 fl_X12_16 r_164_2 ?_
              refine tz_iconst (pc := 206) dX12_termOf_206 ?_
              refine tz_aload_n (pc := 207) dX12_termOf_207 rfl rfl ?_
              refine tz_fI (pc := 208) (kz := 15) (v := b) dX12_termOf_208 fl_X12_71 i_164_15 rfl hM2 (fun r_208 => ?_)
              refine tz_iload (pc := 211) dX12_termOf_211 rfl ?_
              refine tz_iadd (pc := 213) (v := b + m) dX12_termOf_213 rfl ?_
              refine tz_imul (pc := 214) (v := 3 * (b + m)) dX12_termOf_214 rfl ?_
              refine tz_iload (pc := 215) dX12_termOf_215 rfl ?_
              refine tz_if_leF (pc := 217) (tgt := 224) (by decide) dX12_termOf_217 (by decide) (by decide) ?_
              refine tz_iload_n (pc := 220) dX12_termOf_220 rfl rfl ?_
              refine tz_goto (pc := 221) (tgt := 225) dX12_termOf_221 (by decide) ?_
              refine tz_aS (pc := 225) (z := (3 * (b + m))) dX12_termOf_225 a_167 rfl (by omega) (by omega) ?_
              refine tz_aload_n (pc := 226) dX12_termOf_226 rfl rfl ?_
              refine tz_fR (pc := 227) dX12_termOf_227 fl_X12_16 r_164_2 ?_
              refine tz_iconst (pc := 230) dX12_termOf_230 ?_
              refine tz_aload_n (pc := 231) dX12_termOf_231 rfl rfl ?_
              refine tz_fI (pc := 232) (kz := 15) (v := b) dX12_termOf_232 fl_X12_71 i_164_15 rfl hM2 (fun r_232 => ?_)
              refine tz_iload (pc := 235) dX12_termOf_235 rfl ?_
              refine tz_iadd (pc := 237) (v := b + m) dX12_termOf_237 rfl ?_
              refine tz_imul (pc := 238) (v := 3 * (b + m)) dX12_termOf_238 rfl ?_
              refine tz_iconst (pc := 239) dX12_termOf_239 ?_
              refine tz_iadd (pc := 240) (v := (3 * (b + m)) + 1) dX12_termOf_240 rfl ?_
              refine tz_iload (pc := 241) dX12_termOf_241 rfl ?_
              refine tz_iconst (pc := 243) dX12_termOf_243 ?_
              refine tz_icmp_leF (pc := 244) (tgt := 251) (by decide) dX12_termOf_244 (by decide) (by decide) (by decide) ?_
              refine tz_iload_n (pc := 247) dX12_termOf_247 rfl rfl ?_
              refine tz_goto (pc := 248) (tgt := 252) dX12_termOf_248 (by decide) ?_
              refine tz_aS (pc := 252) (z := ((3 * (b + m)) + 1)) dX12_termOf_252 a_167 rfl (by omega) (by omega) ?_
              refine tz_aload_n (pc := 253) dX12_termOf_253 rfl rfl ?_
              refine tz_fR (pc := 254) dX12_termOf_254 fl_X12_16 r_164_2 ?_
              refine tz_iconst (pc := 257) dX12_termOf_257 ?_
              refine tz_aload_n (pc := 258) dX12_termOf_258 rfl rfl ?_
              refine tz_fI (pc := 259) (kz := 15) (v := b) dX12_termOf_259 fl_X12_71 i_164_15 rfl hM2 (fun r_259 => ?_)
              refine tz_iload (pc := 262) dX12_termOf_262 rfl ?_
              refine tz_iadd (pc := 264) (v := b + m) dX12_termOf_264 rfl ?_
              refine tz_imul (pc := 265) (v := 3 * (b + m)) dX12_termOf_265 rfl ?_
              refine tz_iconst (pc := 266) dX12_termOf_266 ?_
              refine tz_iadd (pc := 267) (v := (3 * (b + m)) + 2) dX12_termOf_267 rfl ?_
              refine tz_iload (pc := 268) dX12_termOf_268 rfl ?_
              refine tz_iconst (pc := 270) dX12_termOf_270 ?_
              refine tz_icmp_leF (pc := 271) (tgt := 279) (by decide) dX12_termOf_271 (by decide) (by decide) (by decide) ?_
              refine tz_iload (pc := 274) dX12_termOf_274 rfl ?_
              refine tz_goto (pc := 276) (tgt := 280) dX12_termOf_276 (by decide) ?_
              refine tz_aS (pc := 280) (z := ((3 * (b + m)) + 2)) dX12_termOf_280 a_167 rfl (by omega) (by omega) ?_
              refine tz_aload_n (pc := 281) dX12_termOf_281 rfl rfl ?_
              refine tz_fR (pc := 282) dX12_termOf_282 fl_X12_19 r_164_3 ?_
              refine tz_aload_n (pc := 285) dX12_termOf_285 rfl rfl ?_
              refine tz_fI (pc := 286) (kz := 15) (v := b) dX12_termOf_286 fl_X12_71 i_164_15 rfl hM2 (fun r_286 => ?_)
              refine tz_iload (pc := 289) dX12_termOf_289 rfl ?_
              refine tz_iadd (pc := 291) (v := b + m) dX12_termOf_291 rfl ?_
              refine tz_iload (pc := 292) dX12_termOf_292 rfl ?_
              refine tz_aS (pc := 294) (z := (b + m)) dX12_termOf_294 a_168 rfl (by omega) (by omega) ?_
              refine tz_aload_n (pc := 295) dX12_termOf_295 rfl rfl ?_
              refine tz_fR (pc := 296) dX12_termOf_296 fl_X12_9 r_164_0 ?_
              refine tz_aload_n (pc := 299) dX12_termOf_299 rfl rfl ?_
              refine tz_fI (pc := 300) (kz := 16) (v := r) dX12_termOf_300 fl_X12_85 i_164_16 rfl hM3 (fun r_300 => ?_)
              refine tz_iconst (pc := 303) dX12_termOf_303 ?_
              refine tz_iadd (pc := 304) (v := r) dX12_termOf_304 (Int.add_zero _) ?_
              refine tz_dup2 (pc := 305) dX12_termOf_305 rfl rfl ?_
              refine tz_aL (pc := 306) (z := r) (v := m) dX12_termOf_306 a_165 rfl (by omega) hM5 (fun r_306 => ?_)
              refine tz_iconst (pc := 307) dX12_termOf_307 ?_
              refine tz_iadd (pc := 308) (v := m + 1) dX12_termOf_308 rfl ?_
              refine tz_aS (pc := 309) (z := r) dX12_termOf_309 a_165 rfl (by omega) (by omega) ?_
              refine tz_iload (pc := 310) dX12_termOf_310 rfl ?_
              exact tz_iret (pc := 312) (z := m) dX12_termOf_312 rfl (Nat.le_of_ble_eq_true rfl) (Nat.le_of_ble_eq_true rfl) ⟨Nat.le_refl _, Nat.le_add_right _ _⟩ ⟨_, rfl, (by omega), ⟨m + 1, hM.push (A := 3) (x := x) (y := y) (w := w) (by omega) hh (by unfold arh; rw [if_neg (by omega)]; exact hk.2) (by decide) (fun _ => ⟨rfl, by omega, by omega⟩) (fun _ => ⟨rfl, by omega, by omega⟩) (fun _ => ⟨rfl, by omega, by omega⟩) (fun q a c => hn q a (by omega)) (by omega) (by omega) h_4, by omega⟩⟩
            · refine tz_iconst (pc := 166) dX12_termOf_166 ?_
              refine tz_goto (pc := 167) (tgt := 171) dX12_termOf_167 (by decide) ?_
              refine tz_pZ (pc := 171) (kz := 21) dX12_termOf_171 fl_X12_92 i_164_21 rfl rfl (Or.inr rfl) ?_
              refine tz_aload_n (pc := 174) dX12_termOf_174 rfl rfl ?_
              refine tz_fI (pc := 175) (kz := 21) (v := 1) dX12_termOf_175 fl_X12_92 i_164_21 rfl rfl (fun _ => ?_)
              refine tz_if_eqF (pc := 178) (tgt := 183) (by decide) dX12_termOf_178 (by decide) (by decide) ?_
              refine tz_iconst (pc := 181) dX12_termOf_181 ?_
              exact tz_iret (pc := 182) (z := 0) dX12_termOf_182 rfl (Nat.le_of_ble_eq_true rfl) (Nat.le_of_ble_eq_true rfl) ⟨Nat.le_refl _, Nat.le_add_right _ _⟩ ⟨_, rfl, (by decide), ⟨m, (MG.rf hM).full (fun q => absurd q (by decide)), by omega⟩⟩
        · refine tz_aload_n (pc := 42) dX12_termOf_42 rfl rfl ?_
          refine tz_iload (pc := 43) dX12_termOf_43 rfl ?_
          refine tz_iload_n (pc := 45) dX12_termOf_45 rfl rfl ?_
          refine tz_iload (pc := 46) dX12_termOf_46 rfl ?_
          refine tz_iload_n (pc := 48) dX12_termOf_48 rfl rfl ?_
          refine tz_iload_n (pc := 49) dX12_termOf_49 rfl rfl ?_
          refine tz_iload (pc := 50) dX12_termOf_50 rfl ?_
          refine tz_cV (pc := 52) (m_isThat hl n _ _ _ _ _ _ _ (by omega) (by omega) (by decide) (by omega) (by omega) (by omega) b r d s m hM (by omega)) vl_X12_100 dX12_termOf_52 o_164 rfl rfl (Nat.le_of_ble_eq_true rfl) ⟨(Nat.le_of_ble_eq_true rfl), (Nat.le_of_ble_eq_true rfl)⟩ rfl rfl (Nat.le_of_ble_eq_true rfl) (Nat.le_of_ble_eq_true rfl) (fun r9 J_52 hq9 => ?_)
          obtain ⟨zi9, rfl, hz_52, rfl, hi1, hi2⟩ := hq9
          refine tz_if_eq (pc := 55) (tgt := 61) dX12_termOf_55 (by decide) (by omega) (fun h_55 => ?_) (fun h_55 => ?_)
          · refine tz_iinc (pc := 61) (z := t + 1) (L2 := [_, _, _, _, _, _, _, _]) dX12_termOf_61 rfl (by omega) rfl ?_
            refine tz_goto (pc := 64) (tgt := 33) dX12_termOf_64 (by decide) ?_
            exact ih33 (t + 1) (by omega) (by omega) (fun q a c => (Decidable.em (q = t)).elim (fun e => by rw [e]; exact fun e9 => by have := hi2.mpr e9; omega) (fun e => hn q a (by omega)))
          · refine tz_iload (pc := 58) dX12_termOf_58 rfl ?_
            exact tz_iret (pc := 60) (z := t) dX12_termOf_60 rfl (Nat.le_of_ble_eq_true rfl) (Nat.le_of_ble_eq_true rfl) ⟨Nat.le_refl _, Nat.le_add_right _ _⟩ ⟨_, rfl, (by omega), ⟨m, MG.rf hM, by omega⟩⟩
    exact loop33 _ 0 (Nat.lt_succ_self _) (by omega) (fun q a c => by omega)
  · refine tz_iconst (pc := 7) dX12_termOf_7 ?_
    exact tz_iret (pc := 8) (z := 0) dX12_termOf_8 rfl (Nat.le_of_ble_eq_true rfl) (Nat.le_of_ble_eq_true rfl) ⟨Nat.le_refl _, Nat.le_add_right _ _⟩ ⟨_, rfl, (by decide), ⟨m, MG.rf hM, by omega⟩⟩

theorem m_varTermU0 {l : Launch} {G : tb_G} (hl : l.stackTraces = false) (n : Nat) (J : zJ) (h : Int) (hr_h : -2147483648 ≤ h ∧ h < 2147483648) (b r d s m : Int) (hM : MS J b r d s m) (hh : -8 ≤ h ∧ h < 0) (hu : J 164 21 = 0 ∨ 0 < m) : tz_Ok l G M_X12_termOf 2 0 0 [.ref 164, zi h, zi 0, zi 0, zi 0] n J (zqi (fun z J' => ∃ m', MG [] [] (fun _ => false) J' J b r d s m m' ∧ 0 ≤ z ∧ z < m')) zN := m_tuN hl n J h 0 0 0 hr_h (by decide) (by decide) (by decide) b r d s m hM (by have := hM.told; omega) hh.2 hu (by omega)
set_option maxHeartbeats 4000000 in
set_option maxRecDepth 100000 in
theorem m_varTermU {l : Launch} {G : tb_G} (hl : l.stackTraces = false) (n : Nat) (J : zJ) (v : Int) (hr_v : -2147483648 ≤ v ∧ v < 2147483648) (b r d s m : Int) (hM : MS J b r d s m) (hv : 0 ≤ v ∧ v < 8) (hu : J 164 21 = 0 ∨ 0 < m) : tz_Ok l G M_X12_variableTerm 3 0 0 [.ref 164, zi v] n J (zqi (fun z J' => ∃ m', MG [] [] (fun _ => false) J' J b r d s m m' ∧ 0 ≤ z ∧ z < m')) zN := by
  refine tz_Ok.of hl (by decide +kernel) rfl (tb_c1 rfl) (Nat.le_of_ble_eq_true rfl) ?_
  show tz_At l G M_X12_variableTerm (tb_rm 3 0 0) none (tb_ZM G 0 0 (zQ n 0 (zqi (fun z J' => ∃ m', MG [] [] (fun _ => false) J' J b r d s m m' ∧ 0 ≤ z ∧ z < m'))) (zX n 0 zN)) 0 0 n J 0 [some (.ref 164), some (zi v)] []
  obtain ⟨hM1, hM2, hM3, hM4, hM5, hM6⟩ := id hM
  have hT := hM.told
  refine tz_aload_n (pc := 0) dX12_variableTerm_0 rfl rfl ?_
  refine tz_iconst (pc := 1) dX12_variableTerm_1 ?_
  refine tz_iload_n (pc := 2) dX12_variableTerm_2 rfl rfl ?_
  refine tz_isub (pc := 3) (v := (-1) - v) dX12_variableTerm_3 rfl ?_
  refine tz_iconst (pc := 4) dX12_variableTerm_4 ?_
  refine tz_iconst (pc := 5) dX12_variableTerm_5 ?_
  refine tz_iconst (pc := 6) dX12_variableTerm_6 ?_
  refine tz_cV (pc := 7) (m_varTermU0 hl n _ _ (by omega) b r d s m hM (by omega) hu) vl_X12_107 dX12_variableTerm_7 o_164 rfl rfl (Nat.le_of_ble_eq_true rfl) ⟨(Nat.le_of_ble_eq_true rfl), (Nat.le_of_ble_eq_true rfl)⟩ rfl rfl (Nat.le_of_ble_eq_true rfl) (Nat.le_of_ble_eq_true rfl) (fun r9 J_7 hq9 => ?_)
  obtain ⟨z_7, rfl, hz_7, m1, g1, h1⟩ := hq9
  exact tz_iret (pc := 10) (z := z_7) dX12_variableTerm_10 rfl (Nat.le_of_ble_eq_true rfl) (Nat.le_of_ble_eq_true rfl) ⟨Nat.le_refl _, Nat.le_add_right _ _⟩ ⟨_, rfl, (by omega), ⟨m1, g1, h1⟩⟩

def rtF : List Int := [35, 36, 38, 39, 40, 41, 42, 43, 20]
/-- the table of a text has grown, the reading gone on -/
def RT (J' J : zJ) (s m m' : Int) : Prop := MG [] rtF (fun _ => false) J' J 800 126 10 s m m' ∧ RSP J' ∧ (J' 164 43 = 0 → J 164 43 = 0) ∧ rmu J' ≤ rmu J ∧ (J' 164 21 = 0 ∨ 0 < m')
theorem RT.rf {J : zJ} {s m : Int} (h : MS J 800 126 10 s m) (hP : RSP J) (hu : J 164 21 = 0 ∨ 0 < m) : RT J J s m m := ⟨MG.rf h, hP, id, Int.le_refl _, hu⟩
theorem RT.tr {J3 J2 J1 : zJ} {s m1 m2 m3 : Int} (g : RT J2 J1 s m1 m2) (h : RT J3 J2 s m2 m3) : RT J3 J1 s m1 m3 := ⟨g.1.tr h.1, h.2.1, fun q => g.2.2.1 (h.2.2.1 q), Int.le_trans h.2.2.2.1 g.2.2.2.1, h.2.2.2.2⟩
theorem rtF_no {k : Int} (h : rtF.contains k = false) : rdF k = false ∧ ¬ k = 43 ∧ ¬ k = 20 := by
  simp [rtF] at h
  unfold rdF
  simp
  omega
theorem RT.w {J3 J2 J1 : zJ} {s m m' : Int} (g : RT J2 J1 s m m') (h : RGw J3 J2) : RT J3 J1 s m m' := by
  refine ⟨g.1.off (fun k hk => h.1.2 k (rtF_no hk).1 (rtF_no hk).2.1 (rtF_no hk).2.2) (fun k _ => congrFun (h.1.1 165 rfl) k) (h.1.1.mono (zbut_sub (fun c hc => by simp at hc ⊢; omega))) ⟨rfl, rfl, rfl, rfl⟩ rfl ⟨rfl, rfl, rfl, rfl⟩, h.2.1, fun q => g.2.2.1 (h.2.2.1 q), Int.le_trans h.2.2.2 g.2.2.2.1, ?_⟩
  rw [h.1.2 21 rfl (by decide) (by decide)]
  exact g.2.2.2.2
theorem RT.t {J3 J2 J1 : zJ} {s m m1 m2 : Int} (g : RT J2 J1 s m m1) (h : MG [] [] (fun _ => false) J3 J2 800 126 10 s m1 m2) (h0 : 0 < m2) : RT J3 J1 s m m2 := by
  have e : ∀ k, ¬ k = 21 → J3 164 k = J2 164 k := fun k hk => h.2.2.1.2.2.1 k (by simp; omega)
  refine ⟨g.1.tr (h.mono (fun _ q => q) (fun _ q => by simp at q) (fun _ q => q)), ?_, fun q => g.2.2.1 (by rw [← e 43 (by decide)]; exact q), ?_, Or.inr h0⟩
  · unfold RSP RSz
    rw [e 37 (by decide), e 35 (by decide), e 36 (by decide), e 42 (by decide), e 38 (by decide)]
    exact g.2.1
  · unfold rmu
    rw [e 37 (by decide), e 35 (by decide), e 38 (by decide)]
    exact g.2.2.2.1
theorem RT.f {J2 J1 : zJ} {s m m' : Int} (g : RT J2 J1 s m m') (k : Int) (hk : (21 :: rtF).contains k = false) : J2 164 k = J1 164 k := g.1.2.2.1.2.2.1 k hk
theorem RT.c {J2 J1 : zJ} {s m m' : Int} (g : RT J2 J1 s m m') (c : Nat) (hc : (zbut [164, 165, 166, 167, 168]) c = true) : J2 c = J1 c := g.1.2.2.1.2.2.2 c hc
set_option maxHeartbeats 4000000 in
set_option maxRecDepth 100000 in
theorem m_term1R {l : Launch} {G : tb_G} (hl : l.stackTraces = false) (n : Nat) : ∀ (r9 : Nat) (J : zJ) (x : Int) (hr_x : -2147483648 ≤ x ∧ x < 2147483648) (s m : Int) (hM : MS J 800 126 10 s m) (hP : RSP J) (hu : J 164 21 = 0 ∨ 0 < m) (h44 : J 164 44 = s) (hx : 1 ≤ x ∧ x ≤ 7), ((7 - x).toNat) < r9 → tz_Ok l G M_X12_term1 (6 + 1 * r9) 0 0 [.ref 164, zi x] n J (zqi (fun z J' => ∃ m', RT J' J s m m' ∧ (J' 164 43 = 0 → 0 ≤ z ∧ z < m'))) zN := by
  intro r9
  induction r9 with
  | zero => intro J x hr_x s m hM hP hu h44 hx hm9; exact absurd hm9 (Nat.not_lt_zero _)
  | succ r9 ih =>
    intro J x hr_x s m hM hP hu h44 hx hm9
    refine tz_Ok.of hl (by decide +kernel) rfl (tb_c1 rfl) (Nat.le_of_ble_eq_true rfl) ?_
    show tz_At l G M_X12_term1 (tb_rm (6 + 1 * (r9 + 1)) 0 0) none (tb_ZM G 0 0 (zQ n 0 (zqi (fun z J' => ∃ m', RT J' J s m m' ∧ (J' 164 43 = 0 → 0 ≤ z ∧ z < m')))) (zX n 0 zN)) 0 0 n J 0 [some (.ref 164), some (zi x), none, none, none, none, none] []
    have hT := hM.told
    have g0 := RT.rf hM hP hu
    refine tz_aload_n (pc := 0) dX12_term1_0 rfl rfl ?_
    refine tz_fI (pc := 1) (kz := 43) (v := (J 164 43)) dX12_term1_1 fl_X12_273 i_164_43 rfl rfl (fun r_1 => ?_)
    refine tz_if_ne (pc := 4) (tgt := 37) dX12_term1_4 (by decide) (by omega) (fun h_4 => ?_) (fun h_4 => ?_)
    · refine tz_iconst (pc := 37) dX12_term1_37 ?_
      exact tz_iret (pc := 38) (z := 0) dX12_term1_38 rfl (Nat.le_of_ble_eq_true rfl) (Nat.le_of_ble_eq_true rfl) ⟨Nat.le_refl _, Nat.le_add_right _ _⟩ ⟨_, rfl, (by decide), ⟨m, g0, fun q9 => by omega⟩⟩
    · refine tz_aload_n (pc := 7) dX12_term1_7 rfl rfl ?_
      refine tz_aload_n (pc := 8) dX12_term1_8 rfl rfl ?_
      refine tz_fI (pc := 9) (kz := 38) (v := (J 164 38)) dX12_term1_9 fl_X12_261 i_164_38 rfl rfl (fun r_9 => ?_)
      refine tz_iconst (pc := 12) dX12_term1_12 ?_
      refine tz_icmp_eq (pc := 13) (tgt := 25) dX12_term1_13 (by decide) (by omega) (by decide) (fun h_13 => ?_) (fun h_13 => ?_)
      · refine tz_iconst (pc := 25) dX12_term1_25 ?_
        refine tz_goto (pc := 26) (tgt := 30) dX12_term1_26 (by decide) ?_
        refine tz_iconst (pc := 30) dX12_term1_30 ?_
        refine tz_cV (pc := 31) (m_wantsW hl n _ _ _ (by decide) (by decide) (g0).2.1 (by decide)) vl_X12_276 dX12_term1_31 o_164 rfl rfl (Nat.le_of_ble_eq_true rfl) ⟨(show 0 + 1 ≤ 6 + 1 * (r9 + 1) by omega), (show 8 + (3 + 11) + 40 * (0) ≤ 40 * (6 + 1 * (r9 + 1)) by omega)⟩ rfl rfl (Nat.le_of_ble_eq_true rfl) (Nat.le_of_ble_eq_true rfl) (fun r9 J_31 hq9 => ?_)
        obtain ⟨z_31, rfl, hz_31, w_31, b_31, c_31, d_31⟩ := hq9
        have q_31 := RT.w g0 w_31
        have i_31 := w_31.2.2.1
        have e_31 : z_31 = 1 → J_31 164 43 = 0 := fun q9 => (c_31 q9).2.1
        refine tz_if_ne (pc := 34) (tgt := 39) dX12_term1_34 (by decide) (by omega) (fun h_34 => ?_) (fun h_34 => ?_)
        · refine tz_aload_n (pc := 39) dX12_term1_39 rfl rfl ?_
          refine tz_fI (pc := 40) (kz := 42) (v := (J_31 164 42)) dX12_term1_40 fl_X12_258 i_164_42 rfl rfl (fun r_40 => ?_)
          refine tz_bipush (pc := 43) dX12_term1_43 (by decide) ?_
          refine tz_icmp_ne (pc := 45) (tgt := 98) dX12_term1_45 (by decide) (by omega) (by decide) (fun h_45 => ?_) (fun h_45 => ?_)
          · refine tz_aload_n (pc := 98) dX12_term1_98 rfl rfl ?_
            refine tz_aload_n (pc := 99) dX12_term1_99 rfl rfl ?_
            refine tz_aload_n (pc := 100) dX12_term1_100 rfl rfl ?_
            refine tz_fI (pc := 101) (kz := 36) (v := (J_31 164 36)) dX12_term1_101 fl_X12_246 i_164_36 rfl rfl (fun r_101 => ?_)
            have y_104 := (q_31).2.1
            have x_104 := y_104.2.1
            refine tz_cV (pc := 104) (m_byteAt hl n _ _ (by omega) (by omega) y_104.1.1.2) vl_X12_240 dX12_term1_104 o_164 rfl rfl (Nat.le_of_ble_eq_true rfl) ⟨(show 0 + 1 ≤ 6 + 1 * (r9 + 1) by omega), (show 8 + (2 + 11) + 40 * (0) ≤ 40 * (6 + 1 * (r9 + 1)) by omega)⟩ rfl rfl (Nat.le_of_ble_eq_true rfl) (Nat.le_of_ble_eq_true rfl) (fun r9 J_104 hq9 => ?_)
            obtain ⟨z_104, rfl, hz_104, rfl, hb_104, hc_104⟩ := hq9
            have s_107 : J_31 164 44 = s := ((q_31).f 44 rfl).trans h44
            refine tz_cV (pc := 107) (m_symOf hl n _ _ (by omega) (by rw [s_107]; omega)) vl_X12_293 dX12_term1_107 o_164 rfl rfl (Nat.le_of_ble_eq_true rfl) ⟨(show 0 + 1 ≤ 6 + 1 * (r9 + 1) by omega), (show 8 + (3 + 11) + 40 * (0) ≤ 40 * (6 + 1 * (r9 + 1)) by omega)⟩ rfl rfl (Nat.le_of_ble_eq_true rfl) (Nat.le_of_ble_eq_true rfl) (fun r9 J_107 hq9 => ?_)
            obtain ⟨z_107, rfl, hz_107, rfl, hs_107⟩ := hq9
            rw [s_107] at hs_107
            refine tz_istore_n (pc := 110) (L2 := [_, _, _, _, _, _, _]) dX12_term1_110 rfl (by decide) rfl ?_
            refine tz_aload_n (pc := 111) dX12_term1_111 rfl rfl ?_
            refine tz_aload_n (pc := 112) dX12_term1_112 rfl rfl ?_
            refine tz_fI (pc := 113) (kz := 41) (v := (J_31 164 41)) dX12_term1_113 fl_X12_252 i_164_41 rfl rfl (fun r_113 => ?_)
            refine tz_iconst (pc := 116) dX12_term1_116 ?_
            refine tz_icmp_ne (pc := 117) (tgt := 130) dX12_term1_117 (by decide) (by omega) (by decide) (fun h_117 => ?_) (fun h_117 => ?_)
            · refine tz_iconst (pc := 130) dX12_term1_130 ?_
              refine tz_iconst (pc := 131) dX12_term1_131 ?_
              refine tz_cV (pc := 132) (m_wantsW hl n _ _ _ (by decide) (by decide) (q_31).2.1 (by decide)) vl_X12_276 dX12_term1_132 o_164 rfl rfl (Nat.le_of_ble_eq_true rfl) ⟨(show 0 + 1 ≤ 6 + 1 * (r9 + 1) by omega), (show 8 + (3 + 11) + 40 * (0) ≤ 40 * (6 + 1 * (r9 + 1)) by omega)⟩ rfl rfl (Nat.le_of_ble_eq_true rfl) (Nat.le_of_ble_eq_true rfl) (fun r9 J_132 hq9 => ?_)
              obtain ⟨z_132, rfl, hz_132, w_132, b_132, c_132, d_132⟩ := hq9
              have q_132 := RT.w q_31 w_132
              have i_132 := w_132.2.2.1
              obtain rfl : z_132 = 0 := by rcases b_132 with e9 | e9; exact e9; exact absurd rfl (c_132 e9).2.2
              refine tz_if_eqT (pc := 135) (tgt := 156) (by decide) dX12_term1_135 (by decide) (by decide) ?_
              refine tz_iconst (pc := 156) dX12_term1_156 ?_
              exact tz_iret (pc := 157) (z := 0) dX12_term1_157 rfl (Nat.le_of_ble_eq_true rfl) (Nat.le_of_ble_eq_true rfl) ⟨Nat.le_refl _, Nat.le_add_right _ _⟩ ⟨_, rfl, (by decide), ⟨m, q_132, fun q9 => by omega⟩⟩
            · refine tz_iload_n (pc := 120) dX12_term1_120 rfl rfl ?_
              refine tz_bipush (pc := 121) dX12_term1_121 (by decide) ?_
              refine tz_icmp_gt (pc := 123) (tgt := 130) dX12_term1_123 (by decide) (by omega) (by decide) (fun h_123 => ?_) (fun h_123 => ?_)
              · refine tz_iconst (pc := 130) dX12_term1_130 ?_
                refine tz_iconst (pc := 131) dX12_term1_131 ?_
                refine tz_cV (pc := 132) (m_wantsW hl n _ _ _ (by decide) (by decide) (q_31).2.1 (by decide)) vl_X12_276 dX12_term1_132 o_164 rfl rfl (Nat.le_of_ble_eq_true rfl) ⟨(show 0 + 1 ≤ 6 + 1 * (r9 + 1) by omega), (show 8 + (3 + 11) + 40 * (0) ≤ 40 * (6 + 1 * (r9 + 1)) by omega)⟩ rfl rfl (Nat.le_of_ble_eq_true rfl) (Nat.le_of_ble_eq_true rfl) (fun r9 J_132 hq9 => ?_)
                obtain ⟨z_132, rfl, hz_132, w_132, b_132, c_132, d_132⟩ := hq9
                have q_132 := RT.w q_31 w_132
                have i_132 := w_132.2.2.1
                obtain rfl : z_132 = 0 := by rcases b_132 with e9 | e9; exact e9; exact absurd rfl (c_132 e9).2.2
                refine tz_if_eqT (pc := 135) (tgt := 156) (by decide) dX12_term1_135 (by decide) (by decide) ?_
                refine tz_iconst (pc := 156) dX12_term1_156 ?_
                exact tz_iret (pc := 157) (z := 0) dX12_term1_157 rfl (Nat.le_of_ble_eq_true rfl) (Nat.le_of_ble_eq_true rfl) ⟨Nat.le_refl _, Nat.le_add_right _ _⟩ ⟨_, rfl, (by decide), ⟨m, q_132, fun q9 => by omega⟩⟩
              · refine tz_iconst (pc := 126) dX12_term1_126 ?_
                refine tz_goto (pc := 127) (tgt := 131) dX12_term1_127 (by decide) ?_
                refine tz_iconst (pc := 131) dX12_term1_131 ?_
                refine tz_cV (pc := 132) (m_wantsW hl n _ _ _ (by decide) (by decide) (q_31).2.1 (by decide)) vl_X12_276 dX12_term1_132 o_164 rfl rfl (Nat.le_of_ble_eq_true rfl) ⟨(show 0 + 1 ≤ 6 + 1 * (r9 + 1) by omega), (show 8 + (3 + 11) + 40 * (0) ≤ 40 * (6 + 1 * (r9 + 1)) by omega)⟩ rfl rfl (Nat.le_of_ble_eq_true rfl) (Nat.le_of_ble_eq_true rfl) (fun r9 J_132 hq9 => ?_)
                obtain ⟨z_132, rfl, hz_132, w_132, b_132, c_132, d_132⟩ := hq9
                have q_132 := RT.w q_31 w_132
                have i_132 := w_132.2.2.1
                have e_132 : z_132 = 1 → J_132 164 43 = 0 := fun q9 => (c_132 q9).2.1
                refine tz_if_eq (pc := 135) (tgt := 156) dX12_term1_135 (by decide) (by omega) (fun h_135 => ?_) (fun h_135 => ?_)
                · refine tz_iconst (pc := 156) dX12_term1_156 ?_
                  exact tz_iret (pc := 157) (z := 0) dX12_term1_157 rfl (Nat.le_of_ble_eq_true rfl) (Nat.le_of_ble_eq_true rfl) ⟨Nat.le_refl _, Nat.le_add_right _ _⟩ ⟨_, rfl, (by decide), ⟨m, q_132, fun q9 => by omega⟩⟩
                · refine tz_aload_n (pc := 138) dX12_term1_138 rfl rfl ?_
                  refine tz_iload_n (pc := 139) dX12_term1_139 rfl rfl ?_
                  refine tz_iconst (pc := 140) dX12_term1_140 ?_
                  refine tz_icmp_eq (pc := 141) (tgt := 148) dX12_term1_141 (by decide) (by omega) (by decide) (fun h_141 => ?_) (fun h_141 => ?_)
                  · refine tz_iconst (pc := 148) dX12_term1_148 ?_
                    refine tz_iconst (pc := 149) dX12_term1_149 ?_
                    refine tz_cV (pc := 150) (m_wantsW hl n _ _ _ (by decide) (by decide) (q_132).2.1 (by decide)) vl_X12_276 dX12_term1_150 o_164 rfl rfl (Nat.le_of_ble_eq_true rfl) ⟨(show 0 + 1 ≤ 6 + 1 * (r9 + 1) by omega), (show 8 + (3 + 11) + 40 * (0) ≤ 40 * (6 + 1 * (r9 + 1)) by omega)⟩ rfl rfl (Nat.le_of_ble_eq_true rfl) (Nat.le_of_ble_eq_true rfl) (fun r9 J_150 hq9 => ?_)
                    obtain ⟨z_150, rfl, hz_150, w_150, b_150, c_150, d_150⟩ := hq9
                    have q_150 := RT.w q_132 w_150
                    have i_150 := w_150.2.2.1
                    obtain rfl : z_150 = 0 := by rcases b_150 with e9 | e9; exact e9; exact absurd rfl (c_150 e9).2.2
                    refine tz_if_neF (pc := 153) (tgt := 158) (by decide) dX12_term1_153 (by decide) (by decide) ?_
                    refine tz_iconst (pc := 156) dX12_term1_156 ?_
                    exact tz_iret (pc := 157) (z := 0) dX12_term1_157 rfl (Nat.le_of_ble_eq_true rfl) (Nat.le_of_ble_eq_true rfl) ⟨Nat.le_refl _, Nat.le_add_right _ _⟩ ⟨_, rfl, (by decide), ⟨m, q_150, fun q9 => by omega⟩⟩
                  · refine tz_iconst (pc := 144) dX12_term1_144 ?_
                    refine tz_goto (pc := 145) (tgt := 149) dX12_term1_145 (by decide) ?_
                    refine tz_iconst (pc := 149) dX12_term1_149 ?_
                    refine tz_cV (pc := 150) (m_wantsW hl n _ _ _ (by decide) (by decide) (q_132).2.1 (by decide)) vl_X12_276 dX12_term1_150 o_164 rfl rfl (Nat.le_of_ble_eq_true rfl) ⟨(show 0 + 1 ≤ 6 + 1 * (r9 + 1) by omega), (show 8 + (3 + 11) + 40 * (0) ≤ 40 * (6 + 1 * (r9 + 1)) by omega)⟩ rfl rfl (Nat.le_of_ble_eq_true rfl) (Nat.le_of_ble_eq_true rfl) (fun r9 J_150 hq9 => ?_)
                    obtain ⟨z_150, rfl, hz_150, w_150, b_150, c_150, d_150⟩ := hq9
                    have q_150 := RT.w q_132 w_150
                    have i_150 := w_150.2.2.1
                    have e_150 : z_150 = 1 → J_150 164 43 = 0 := fun q9 => (c_150 q9).2.1
                    refine tz_if_ne (pc := 153) (tgt := 158) dX12_term1_153 (by decide) (by omega) (fun h_153 => ?_) (fun h_153 => ?_)
                    · refine tz_aload_n (pc := 158) dX12_term1_158 rfl rfl ?_
                      refine tz_cV (pc := 159) (m_goW hl n _ (q_150).2.1) vl_X12_280 dX12_term1_159 o_164 rfl rfl (Nat.le_of_ble_eq_true rfl) ⟨(show 2 + 1 ≤ 6 + 1 * (r9 + 1) by omega), (show 8 + (2 + 11) + 40 * (2) ≤ 40 * (6 + 1 * (r9 + 1)) by omega)⟩ rfl rfl (Nat.le_of_ble_eq_true rfl) (Nat.le_of_ble_eq_true rfl) (fun r9 J_159 hq9 => ?_)
                      obtain ⟨rfl, w_159, b_159⟩ := hq9
                      have q_159 := RT.w q_150 w_159
                      refine tz_aload_n (pc := 162) dX12_term1_162 rfl rfl ?_
                      refine tz_fR (pc := 163) dX12_term1_163 fl_X12_25 r_164_5 ?_
                      refine tz_bipush (pc := 166) dX12_term1_166 (by decide) ?_
                      refine tz_iload_n (pc := 168) dX12_term1_168 rfl rfl ?_
                      refine tz_iadd (pc := 169) (v := 10 + z_107) dX12_term1_169 rfl ?_
                      refine tz_aL (pc := 170) (z := (10 + z_107)) (v := (J 170 (10 + z_107))) dX12_term1_170 a_170 rfl (by omega) (Eq.trans (congrFun (w_159.1.1 170 rfl) (10 + z_107)) (Eq.trans (congrFun (w_150.1.1 170 rfl) (10 + z_107)) (Eq.trans (congrFun (w_132.1.1 170 rfl) (10 + z_107)) (Eq.trans (congrFun (w_31.1.1 170 rfl) (10 + z_107)) rfl)))) (fun r_170 => ?_)
                      have hA9 := hM.2.2.2.2.2.1.2 z_107 (by omega) (by omega)
                      have hA8 : 0 ≤ J 170 (10 + z_107) ∧ J 170 (10 + z_107) ≤ 3 := hA9
                      rcases (show J 170 (10 + z_107) = 0 ∨ J 170 (10 + z_107) = 1 ∨ J 170 (10 + z_107) = 2 ∨ J 170 (10 + z_107) = 3 by omega) with hk9 | hk9 | hk9 | hk9
                      · rw [hk9]
                        refine tz_istore_n (pc := 171) (L2 := [_, _, _, _, _, _, _]) dX12_term1_171 rfl (by decide) rfl ?_
                        refine tz_iconst (pc := 172) dX12_term1_172 ?_
                        refine tz_istore (pc := 173) (L2 := [_, _, _, _, _, _, _]) dX12_term1_173 (by decide) rfl ?_
                        refine tz_iconst (pc := 175) dX12_term1_175 ?_
                        refine tz_istore (pc := 176) (L2 := [_, _, _, _, _, _, _]) dX12_term1_176 (by decide) rfl ?_
                        refine tz_iconst (pc := 178) dX12_term1_178 ?_
                        refine tz_istore (pc := 179) (L2 := [_, _, _, _, _, _, _]) dX12_term1_179 (by decide) rfl ?_
                        refine tz_iload_n (pc := 181) dX12_term1_181 rfl rfl ?_
                        refine tz_if_leT (pc := 182) (tgt := 264) (by decide) dX12_term1_182 (by decide) (by decide) ?_
                        refine tz_aload_n (pc := 264) dX12_term1_264 rfl rfl ?_
                        refine tz_fI (pc := 265) (kz := 43) (v := (J_159 164 43)) dX12_term1_265 fl_X12_273 i_164_43 rfl rfl (fun r_265 => ?_)
                        refine tz_if_ne (pc := 268) (tgt := 285) dX12_term1_268 (by decide) (by omega) (fun h_268 => ?_) (fun h_268 => ?_)
                        · refine tz_iconst (pc := 285) dX12_term1_285 ?_
                          exact tz_iret (pc := 286) (z := 0) dX12_term1_286 rfl (Nat.le_of_ble_eq_true rfl) (Nat.le_of_ble_eq_true rfl) ⟨Nat.le_refl _, Nat.le_add_right _ _⟩ ⟨_, rfl, (by decide), ⟨m, q_159, fun q9 => by omega⟩⟩
                        · refine tz_aload_n (pc := 271) dX12_term1_271 rfl rfl ?_
                          refine tz_iload_n (pc := 272) dX12_term1_272 rfl rfl ?_
                          refine tz_iload (pc := 273) dX12_term1_273 rfl ?_
                          refine tz_iload (pc := 275) dX12_term1_275 rfl ?_
                          refine tz_iload (pc := 277) dX12_term1_277 rfl ?_
                          refine tz_cV (pc := 279) (m_tu0 hl n _ _ _ _ _ (by omega) (by decide) (by decide) (by decide) 800 126 10 s m (q_159).1.1.1 (by omega) ⟨by omega, ((congrFun ((q_159).c 170 rfl) _).trans hk9)⟩ (q_159).2.2.2.2 (by omega)) vl_X12_107 dX12_term1_279 o_164 rfl rfl (Nat.le_of_ble_eq_true rfl) ⟨(show 2 + 1 ≤ 6 + 1 * (r9 + 1) by omega), (show 8 + (8 + 11) + 40 * (2) ≤ 40 * (6 + 1 * (r9 + 1)) by omega)⟩ rfl rfl (Nat.le_of_ble_eq_true rfl) (Nat.le_of_ble_eq_true rfl) (fun r9 J_279 hq9 => ?_)
                          obtain ⟨z_279, rfl, hz_279, m_279, g_279, h_279⟩ := hq9
                          have q_279 := RT.t q_159 g_279 (by omega)
                          refine tz_goto (pc := 282) (tgt := 286) dX12_term1_282 (by decide) ?_
                          exact tz_iret (pc := 286) (z := z_279) dX12_term1_286 rfl (Nat.le_of_ble_eq_true rfl) (Nat.le_of_ble_eq_true rfl) ⟨Nat.le_refl _, Nat.le_add_right _ _⟩ ⟨_, rfl, (by omega), ⟨m_279, q_279, fun _ => h_279⟩⟩
                      · rw [hk9]
                        refine tz_istore_n (pc := 171) (L2 := [_, _, _, _, _, _, _]) dX12_term1_171 rfl (by decide) rfl ?_
                        refine tz_iconst (pc := 172) dX12_term1_172 ?_
                        refine tz_istore (pc := 173) (L2 := [_, _, _, _, _, _, _]) dX12_term1_173 (by decide) rfl ?_
                        refine tz_iconst (pc := 175) dX12_term1_175 ?_
                        refine tz_istore (pc := 176) (L2 := [_, _, _, _, _, _, _]) dX12_term1_176 (by decide) rfl ?_
                        refine tz_iconst (pc := 178) dX12_term1_178 ?_
                        refine tz_istore (pc := 179) (L2 := [_, _, _, _, _, _, _]) dX12_term1_179 (by decide) rfl ?_
                        refine tz_iload_n (pc := 181) dX12_term1_181 rfl rfl ?_
                        refine tz_if_leF (pc := 182) (tgt := 264) (by decide) dX12_term1_182 (by decide) (by decide) ?_
                        refine tz_aload_n (pc := 185) dX12_term1_185 rfl rfl ?_
                        refine tz_bipush (pc := 186) dX12_term1_186 (by decide) ?_
                        refine tz_cV (pc := 188) (m_sign hl n _ _ (by decide) (q_159).2.1 (by decide)) vl_X12_296 dX12_term1_188 o_164 rfl rfl (Nat.le_of_ble_eq_true rfl) ⟨(show 3 + 1 ≤ 6 + 1 * (r9 + 1) by omega), (show 8 + (2 + 11) + 40 * (3) ≤ 40 * (6 + 1 * (r9 + 1)) by omega)⟩ rfl rfl (Nat.le_of_ble_eq_true rfl) (Nat.le_of_ble_eq_true rfl) (fun r9 J_188 hq9 => ?_)
                        obtain ⟨rfl, w_188, b_188⟩ := hq9
                        have q_188 := RT.w q_159 w_188
                        have i_188 := w_188.2.2.1
                        refine tz_aload_n (pc := 191) dX12_term1_191 rfl rfl ?_
                        refine tz_iload_n (pc := 192) dX12_term1_192 rfl rfl ?_
                        refine tz_iconst (pc := 193) dX12_term1_193 ?_
                        refine tz_iadd (pc := 194) (v := x + 1) dX12_term1_194 rfl ?_
                        refine tz_cV (pc := 195) (ih _ _ (by omega) s m (q_188).1.1.1 (q_188).2.1 (q_188).2.2.2.2 (((q_188).f 44 rfl).trans h44) (by omega) (by omega)) vl_X12_298 dX12_term1_195 o_164 rfl rfl (Nat.le_of_ble_eq_true rfl) ⟨(show (6 + 1 * r9) + 1 ≤ 6 + 1 * (r9 + 1) by omega), (show 8 + (7 + 11) + 40 * ((6 + 1 * r9)) ≤ 40 * (6 + 1 * (r9 + 1)) by omega)⟩ rfl rfl (Nat.le_of_ble_eq_true rfl) (Nat.le_of_ble_eq_true rfl) (fun r9 J_195 hq9 => ?_)
                        obtain ⟨z_195, rfl, hz_195, m_195, w_195, h_195⟩ := hq9
                        have q_195 := RT.tr q_188 w_195
                        have l_195 := w_195.1.1.2
                        have i_195 := w_195.2.2.1
                        refine tz_istore (pc := 198) (L2 := [_, _, _, _, _, _, _]) dX12_term1_198 (by decide) rfl ?_
                        refine tz_iload_n (pc := 200) dX12_term1_200 rfl rfl ?_
                        refine tz_iconst (pc := 201) dX12_term1_201 ?_
                        refine tz_icmp_leT (pc := 202) (tgt := 211) (by decide) dX12_term1_202 (by decide) (by decide) (by decide) ?_
                        refine tz_iload_n (pc := 211) dX12_term1_211 rfl rfl ?_
                        refine tz_iconst (pc := 212) dX12_term1_212 ?_
                        refine tz_icmp_leT (pc := 213) (tgt := 226) (by decide) dX12_term1_213 (by decide) (by decide) (by decide) ?_
                        refine tz_iconst (pc := 226) dX12_term1_226 ?_
                        refine tz_istore (pc := 227) (L2 := [_, _, _, _, _, _, _]) dX12_term1_227 (by decide) rfl ?_
                        refine tz_iload_n (pc := 229) dX12_term1_229 rfl rfl ?_
                        refine tz_iconst (pc := 230) dX12_term1_230 ?_
                        refine tz_icmp_leT (pc := 231) (tgt := 240) (by decide) dX12_term1_231 (by decide) (by decide) (by decide) ?_
                        refine tz_iload_n (pc := 240) dX12_term1_240 rfl rfl ?_
                        refine tz_iconst (pc := 241) dX12_term1_241 ?_
                        refine tz_icmp_leT (pc := 242) (tgt := 255) (by decide) dX12_term1_242 (by decide) (by decide) (by decide) ?_
                        refine tz_iconst (pc := 255) dX12_term1_255 ?_
                        refine tz_istore (pc := 256) (L2 := [_, _, _, _, _, _, _]) dX12_term1_256 (by decide) rfl ?_
                        refine tz_aload_n (pc := 258) dX12_term1_258 rfl rfl ?_
                        refine tz_bipush (pc := 259) dX12_term1_259 (by decide) ?_
                        refine tz_cV (pc := 261) (m_sign hl n _ _ (by decide) (q_195).2.1 (by decide)) vl_X12_296 dX12_term1_261 o_164 rfl rfl (Nat.le_of_ble_eq_true rfl) ⟨(show 3 + 1 ≤ 6 + 1 * (r9 + 1) by omega), (show 8 + (2 + 11) + 40 * (3) ≤ 40 * (6 + 1 * (r9 + 1)) by omega)⟩ rfl rfl (Nat.le_of_ble_eq_true rfl) (Nat.le_of_ble_eq_true rfl) (fun r9 J_261 hq9 => ?_)
                        obtain ⟨rfl, w_261, b_261⟩ := hq9
                        have q_261 := RT.w q_195 w_261
                        have i_261 := w_261.2.2.1
                        refine tz_aload_n (pc := 264) dX12_term1_264 rfl rfl ?_
                        refine tz_fI (pc := 265) (kz := 43) (v := (J_261 164 43)) dX12_term1_265 fl_X12_273 i_164_43 rfl rfl (fun r_265 => ?_)
                        refine tz_if_ne (pc := 268) (tgt := 285) dX12_term1_268 (by decide) (by omega) (fun h_268 => ?_) (fun h_268 => ?_)
                        · refine tz_iconst (pc := 285) dX12_term1_285 ?_
                          exact tz_iret (pc := 286) (z := 0) dX12_term1_286 rfl (Nat.le_of_ble_eq_true rfl) (Nat.le_of_ble_eq_true rfl) ⟨Nat.le_refl _, Nat.le_add_right _ _⟩ ⟨_, rfl, (by decide), ⟨m_195, q_261, fun q9 => by omega⟩⟩
                        · refine tz_aload_n (pc := 271) dX12_term1_271 rfl rfl ?_
                          refine tz_iload_n (pc := 272) dX12_term1_272 rfl rfl ?_
                          refine tz_iload (pc := 273) dX12_term1_273 rfl ?_
                          refine tz_iload (pc := 275) dX12_term1_275 rfl ?_
                          refine tz_iload (pc := 277) dX12_term1_277 rfl ?_
                          refine tz_cV (pc := 279) (m_tu1 hl n _ _ _ _ _ (by omega) (by omega) (by decide) (by decide) 800 126 10 s m_195 (q_261).1.1.1 (by omega) ⟨by omega, ((congrFun ((q_261).c 170 rfl) _).trans hk9)⟩ (q_261).2.2.2.2 (by omega)) vl_X12_107 dX12_term1_279 o_164 rfl rfl (Nat.le_of_ble_eq_true rfl) ⟨(show 2 + 1 ≤ 6 + 1 * (r9 + 1) by omega), (show 8 + (8 + 11) + 40 * (2) ≤ 40 * (6 + 1 * (r9 + 1)) by omega)⟩ rfl rfl (Nat.le_of_ble_eq_true rfl) (Nat.le_of_ble_eq_true rfl) (fun r9 J_279 hq9 => ?_)
                          obtain ⟨z_279, rfl, hz_279, m_279, g_279, h_279⟩ := hq9
                          have q_279 := RT.t q_261 g_279 (by omega)
                          refine tz_goto (pc := 282) (tgt := 286) dX12_term1_282 (by decide) ?_
                          exact tz_iret (pc := 286) (z := z_279) dX12_term1_286 rfl (Nat.le_of_ble_eq_true rfl) (Nat.le_of_ble_eq_true rfl) ⟨Nat.le_refl _, Nat.le_add_right _ _⟩ ⟨_, rfl, (by omega), ⟨m_279, q_279, fun _ => h_279⟩⟩
                      · rw [hk9]
                        refine tz_istore_n (pc := 171) (L2 := [_, _, _, _, _, _, _]) dX12_term1_171 rfl (by decide) rfl ?_
                        refine tz_iconst (pc := 172) dX12_term1_172 ?_
                        refine tz_istore (pc := 173) (L2 := [_, _, _, _, _, _, _]) dX12_term1_173 (by decide) rfl ?_
                        refine tz_iconst (pc := 175) dX12_term1_175 ?_
                        refine tz_istore (pc := 176) (L2 := [_, _, _, _, _, _, _]) dX12_term1_176 (by decide) rfl ?_
                        refine tz_iconst (pc := 178) dX12_term1_178 ?_
                        refine tz_istore (pc := 179) (L2 := [_, _, _, _, _, _, _]) dX12_term1_179 (by decide) rfl ?_
                        refine tz_iload_n (pc := 181) dX12_term1_181 rfl rfl ?_
                        refine tz_if_leF (pc := 182) (tgt := 264) (by decide) dX12_term1_182 (by decide) (by decide) ?_
                        refine tz_aload_n (pc := 185) dX12_term1_185 rfl rfl ?_
                        refine tz_bipush (pc := 186) dX12_term1_186 (by decide) ?_
                        refine tz_cV (pc := 188) (m_sign hl n _ _ (by decide) (q_159).2.1 (by decide)) vl_X12_296 dX12_term1_188 o_164 rfl rfl (Nat.le_of_ble_eq_true rfl) ⟨(show 3 + 1 ≤ 6 + 1 * (r9 + 1) by omega), (show 8 + (2 + 11) + 40 * (3) ≤ 40 * (6 + 1 * (r9 + 1)) by omega)⟩ rfl rfl (Nat.le_of_ble_eq_true rfl) (Nat.le_of_ble_eq_true rfl) (fun r9 J_188 hq9 => ?_)
                        obtain ⟨rfl, w_188, b_188⟩ := hq9
                        have q_188 := RT.w q_159 w_188
                        have i_188 := w_188.2.2.1
                        refine tz_aload_n (pc := 191) dX12_term1_191 rfl rfl ?_
                        refine tz_iload_n (pc := 192) dX12_term1_192 rfl rfl ?_
                        refine tz_iconst (pc := 193) dX12_term1_193 ?_
                        refine tz_iadd (pc := 194) (v := x + 1) dX12_term1_194 rfl ?_
                        refine tz_cV (pc := 195) (ih _ _ (by omega) s m (q_188).1.1.1 (q_188).2.1 (q_188).2.2.2.2 (((q_188).f 44 rfl).trans h44) (by omega) (by omega)) vl_X12_298 dX12_term1_195 o_164 rfl rfl (Nat.le_of_ble_eq_true rfl) ⟨(show (6 + 1 * r9) + 1 ≤ 6 + 1 * (r9 + 1) by omega), (show 8 + (7 + 11) + 40 * ((6 + 1 * r9)) ≤ 40 * (6 + 1 * (r9 + 1)) by omega)⟩ rfl rfl (Nat.le_of_ble_eq_true rfl) (Nat.le_of_ble_eq_true rfl) (fun r9 J_195 hq9 => ?_)
                        obtain ⟨z_195, rfl, hz_195, m_195, w_195, h_195⟩ := hq9
                        have q_195 := RT.tr q_188 w_195
                        have l_195 := w_195.1.1.2
                        have i_195 := w_195.2.2.1
                        refine tz_istore (pc := 198) (L2 := [_, _, _, _, _, _, _]) dX12_term1_198 (by decide) rfl ?_
                        refine tz_iload_n (pc := 200) dX12_term1_200 rfl rfl ?_
                        refine tz_iconst (pc := 201) dX12_term1_201 ?_
                        refine tz_icmp_leF (pc := 202) (tgt := 211) (by decide) dX12_term1_202 (by decide) (by decide) (by decide) ?_
                        refine tz_aload_n (pc := 205) dX12_term1_205 rfl rfl ?_
                        refine tz_bipush (pc := 206) dX12_term1_206 (by decide) ?_
                        refine tz_cV (pc := 208) (m_sign hl n _ _ (by decide) (q_195).2.1 (by decide)) vl_X12_296 dX12_term1_208 o_164 rfl rfl (Nat.le_of_ble_eq_true rfl) ⟨(show 3 + 1 ≤ 6 + 1 * (r9 + 1) by omega), (show 8 + (2 + 11) + 40 * (3) ≤ 40 * (6 + 1 * (r9 + 1)) by omega)⟩ rfl rfl (Nat.le_of_ble_eq_true rfl) (Nat.le_of_ble_eq_true rfl) (fun r9 J_208 hq9 => ?_)
                        obtain ⟨rfl, w_208, b_208⟩ := hq9
                        have q_208 := RT.w q_195 w_208
                        have i_208 := w_208.2.2.1
                        refine tz_iload_n (pc := 211) dX12_term1_211 rfl rfl ?_
                        refine tz_iconst (pc := 212) dX12_term1_212 ?_
                        refine tz_icmp_leF (pc := 213) (tgt := 226) (by decide) dX12_term1_213 (by decide) (by decide) (by decide) ?_
                        refine tz_aload_n (pc := 216) dX12_term1_216 rfl rfl ?_
                        refine tz_iload_n (pc := 217) dX12_term1_217 rfl rfl ?_
                        refine tz_iconst (pc := 218) dX12_term1_218 ?_
                        refine tz_iadd (pc := 219) (v := x + 1) dX12_term1_219 rfl ?_
                        refine tz_cV (pc := 220) (ih _ _ (by omega) s m_195 (q_208).1.1.1 (q_208).2.1 (q_208).2.2.2.2 (((q_208).f 44 rfl).trans h44) (by omega) (by omega)) vl_X12_298 dX12_term1_220 o_164 rfl rfl (Nat.le_of_ble_eq_true rfl) ⟨(show (6 + 1 * r9) + 1 ≤ 6 + 1 * (r9 + 1) by omega), (show 8 + (7 + 11) + 40 * ((6 + 1 * r9)) ≤ 40 * (6 + 1 * (r9 + 1)) by omega)⟩ rfl rfl (Nat.le_of_ble_eq_true rfl) (Nat.le_of_ble_eq_true rfl) (fun r9 J_220 hq9 => ?_)
                        obtain ⟨z_220, rfl, hz_220, m_220, w_220, h_220⟩ := hq9
                        have q_220 := RT.tr q_208 w_220
                        have l_220 := w_220.1.1.2
                        have i_220 := w_220.2.2.1
                        refine tz_goto (pc := 223) (tgt := 227) dX12_term1_223 (by decide) ?_
                        refine tz_istore (pc := 227) (L2 := [_, _, _, _, _, _, _]) dX12_term1_227 (by decide) rfl ?_
                        refine tz_iload_n (pc := 229) dX12_term1_229 rfl rfl ?_
                        refine tz_iconst (pc := 230) dX12_term1_230 ?_
                        refine tz_icmp_leT (pc := 231) (tgt := 240) (by decide) dX12_term1_231 (by decide) (by decide) (by decide) ?_
                        refine tz_iload_n (pc := 240) dX12_term1_240 rfl rfl ?_
                        refine tz_iconst (pc := 241) dX12_term1_241 ?_
                        refine tz_icmp_leT (pc := 242) (tgt := 255) (by decide) dX12_term1_242 (by decide) (by decide) (by decide) ?_
                        refine tz_iconst (pc := 255) dX12_term1_255 ?_
                        refine tz_istore (pc := 256) (L2 := [_, _, _, _, _, _, _]) dX12_term1_256 (by decide) rfl ?_
                        refine tz_aload_n (pc := 258) dX12_term1_258 rfl rfl ?_
                        refine tz_bipush (pc := 259) dX12_term1_259 (by decide) ?_
                        refine tz_cV (pc := 261) (m_sign hl n _ _ (by decide) (q_220).2.1 (by decide)) vl_X12_296 dX12_term1_261 o_164 rfl rfl (Nat.le_of_ble_eq_true rfl) ⟨(show 3 + 1 ≤ 6 + 1 * (r9 + 1) by omega), (show 8 + (2 + 11) + 40 * (3) ≤ 40 * (6 + 1 * (r9 + 1)) by omega)⟩ rfl rfl (Nat.le_of_ble_eq_true rfl) (Nat.le_of_ble_eq_true rfl) (fun r9 J_261 hq9 => ?_)
                        obtain ⟨rfl, w_261, b_261⟩ := hq9
                        have q_261 := RT.w q_220 w_261
                        have i_261 := w_261.2.2.1
                        refine tz_aload_n (pc := 264) dX12_term1_264 rfl rfl ?_
                        refine tz_fI (pc := 265) (kz := 43) (v := (J_261 164 43)) dX12_term1_265 fl_X12_273 i_164_43 rfl rfl (fun r_265 => ?_)
                        refine tz_if_ne (pc := 268) (tgt := 285) dX12_term1_268 (by decide) (by omega) (fun h_268 => ?_) (fun h_268 => ?_)
                        · refine tz_iconst (pc := 285) dX12_term1_285 ?_
                          exact tz_iret (pc := 286) (z := 0) dX12_term1_286 rfl (Nat.le_of_ble_eq_true rfl) (Nat.le_of_ble_eq_true rfl) ⟨Nat.le_refl _, Nat.le_add_right _ _⟩ ⟨_, rfl, (by decide), ⟨m_220, q_261, fun q9 => by omega⟩⟩
                        · refine tz_aload_n (pc := 271) dX12_term1_271 rfl rfl ?_
                          refine tz_iload_n (pc := 272) dX12_term1_272 rfl rfl ?_
                          refine tz_iload (pc := 273) dX12_term1_273 rfl ?_
                          refine tz_iload (pc := 275) dX12_term1_275 rfl ?_
                          refine tz_iload (pc := 277) dX12_term1_277 rfl ?_
                          refine tz_cV (pc := 279) (m_tu2 hl n _ _ _ _ _ (by omega) (by omega) (by omega) (by decide) 800 126 10 s m_220 (q_261).1.1.1 (by omega) ⟨by omega, ((congrFun ((q_261).c 170 rfl) _).trans hk9)⟩ (q_261).2.2.2.2 (by omega)) vl_X12_107 dX12_term1_279 o_164 rfl rfl (Nat.le_of_ble_eq_true rfl) ⟨(show 2 + 1 ≤ 6 + 1 * (r9 + 1) by omega), (show 8 + (8 + 11) + 40 * (2) ≤ 40 * (6 + 1 * (r9 + 1)) by omega)⟩ rfl rfl (Nat.le_of_ble_eq_true rfl) (Nat.le_of_ble_eq_true rfl) (fun r9 J_279 hq9 => ?_)
                          obtain ⟨z_279, rfl, hz_279, m_279, g_279, h_279⟩ := hq9
                          have q_279 := RT.t q_261 g_279 (by omega)
                          refine tz_goto (pc := 282) (tgt := 286) dX12_term1_282 (by decide) ?_
                          exact tz_iret (pc := 286) (z := z_279) dX12_term1_286 rfl (Nat.le_of_ble_eq_true rfl) (Nat.le_of_ble_eq_true rfl) ⟨Nat.le_refl _, Nat.le_add_right _ _⟩ ⟨_, rfl, (by omega), ⟨m_279, q_279, fun _ => h_279⟩⟩
                      · rw [hk9]
                        refine tz_istore_n (pc := 171) (L2 := [_, _, _, _, _, _, _]) dX12_term1_171 rfl (by decide) rfl ?_
                        refine tz_iconst (pc := 172) dX12_term1_172 ?_
                        refine tz_istore (pc := 173) (L2 := [_, _, _, _, _, _, _]) dX12_term1_173 (by decide) rfl ?_
                        refine tz_iconst (pc := 175) dX12_term1_175 ?_
                        refine tz_istore (pc := 176) (L2 := [_, _, _, _, _, _, _]) dX12_term1_176 (by decide) rfl ?_
                        refine tz_iconst (pc := 178) dX12_term1_178 ?_
                        refine tz_istore (pc := 179) (L2 := [_, _, _, _, _, _, _]) dX12_term1_179 (by decide) rfl ?_
                        refine tz_iload_n (pc := 181) dX12_term1_181 rfl rfl ?_
                        refine tz_if_leF (pc := 182) (tgt := 264) (by decide) dX12_term1_182 (by decide) (by decide) ?_
                        refine tz_aload_n (pc := 185) dX12_term1_185 rfl rfl ?_
                        refine tz_bipush (pc := 186) dX12_term1_186 (by decide) ?_
                        refine tz_cV (pc := 188) (m_sign hl n _ _ (by decide) (q_159).2.1 (by decide)) vl_X12_296 dX12_term1_188 o_164 rfl rfl (Nat.le_of_ble_eq_true rfl) ⟨(show 3 + 1 ≤ 6 + 1 * (r9 + 1) by omega), (show 8 + (2 + 11) + 40 * (3) ≤ 40 * (6 + 1 * (r9 + 1)) by omega)⟩ rfl rfl (Nat.le_of_ble_eq_true rfl) (Nat.le_of_ble_eq_true rfl) (fun r9 J_188 hq9 => ?_)
                        obtain ⟨rfl, w_188, b_188⟩ := hq9
                        have q_188 := RT.w q_159 w_188
                        have i_188 := w_188.2.2.1
                        refine tz_aload_n (pc := 191) dX12_term1_191 rfl rfl ?_
                        refine tz_iload_n (pc := 192) dX12_term1_192 rfl rfl ?_
                        refine tz_iconst (pc := 193) dX12_term1_193 ?_
                        refine tz_iadd (pc := 194) (v := x + 1) dX12_term1_194 rfl ?_
                        refine tz_cV (pc := 195) (ih _ _ (by omega) s m (q_188).1.1.1 (q_188).2.1 (q_188).2.2.2.2 (((q_188).f 44 rfl).trans h44) (by omega) (by omega)) vl_X12_298 dX12_term1_195 o_164 rfl rfl (Nat.le_of_ble_eq_true rfl) ⟨(show (6 + 1 * r9) + 1 ≤ 6 + 1 * (r9 + 1) by omega), (show 8 + (7 + 11) + 40 * ((6 + 1 * r9)) ≤ 40 * (6 + 1 * (r9 + 1)) by omega)⟩ rfl rfl (Nat.le_of_ble_eq_true rfl) (Nat.le_of_ble_eq_true rfl) (fun r9 J_195 hq9 => ?_)
                        obtain ⟨z_195, rfl, hz_195, m_195, w_195, h_195⟩ := hq9
                        have q_195 := RT.tr q_188 w_195
                        have l_195 := w_195.1.1.2
                        have i_195 := w_195.2.2.1
                        refine tz_istore (pc := 198) (L2 := [_, _, _, _, _, _, _]) dX12_term1_198 (by decide) rfl ?_
                        refine tz_iload_n (pc := 200) dX12_term1_200 rfl rfl ?_
                        refine tz_iconst (pc := 201) dX12_term1_201 ?_
                        refine tz_icmp_leF (pc := 202) (tgt := 211) (by decide) dX12_term1_202 (by decide) (by decide) (by decide) ?_
                        refine tz_aload_n (pc := 205) dX12_term1_205 rfl rfl ?_
                        refine tz_bipush (pc := 206) dX12_term1_206 (by decide) ?_
                        refine tz_cV (pc := 208) (m_sign hl n _ _ (by decide) (q_195).2.1 (by decide)) vl_X12_296 dX12_term1_208 o_164 rfl rfl (Nat.le_of_ble_eq_true rfl) ⟨(show 3 + 1 ≤ 6 + 1 * (r9 + 1) by omega), (show 8 + (2 + 11) + 40 * (3) ≤ 40 * (6 + 1 * (r9 + 1)) by omega)⟩ rfl rfl (Nat.le_of_ble_eq_true rfl) (Nat.le_of_ble_eq_true rfl) (fun r9 J_208 hq9 => ?_)
                        obtain ⟨rfl, w_208, b_208⟩ := hq9
                        have q_208 := RT.w q_195 w_208
                        have i_208 := w_208.2.2.1
                        refine tz_iload_n (pc := 211) dX12_term1_211 rfl rfl ?_
                        refine tz_iconst (pc := 212) dX12_term1_212 ?_
                        refine tz_icmp_leF (pc := 213) (tgt := 226) (by decide) dX12_term1_213 (by decide) (by decide) (by decide) ?_
                        refine tz_aload_n (pc := 216) dX12_term1_216 rfl rfl ?_
                        refine tz_iload_n (pc := 217) dX12_term1_217 rfl rfl ?_
                        refine tz_iconst (pc := 218) dX12_term1_218 ?_
                        refine tz_iadd (pc := 219) (v := x + 1) dX12_term1_219 rfl ?_
                        refine tz_cV (pc := 220) (ih _ _ (by omega) s m_195 (q_208).1.1.1 (q_208).2.1 (q_208).2.2.2.2 (((q_208).f 44 rfl).trans h44) (by omega) (by omega)) vl_X12_298 dX12_term1_220 o_164 rfl rfl (Nat.le_of_ble_eq_true rfl) ⟨(show (6 + 1 * r9) + 1 ≤ 6 + 1 * (r9 + 1) by omega), (show 8 + (7 + 11) + 40 * ((6 + 1 * r9)) ≤ 40 * (6 + 1 * (r9 + 1)) by omega)⟩ rfl rfl (Nat.le_of_ble_eq_true rfl) (Nat.le_of_ble_eq_true rfl) (fun r9 J_220 hq9 => ?_)
                        obtain ⟨z_220, rfl, hz_220, m_220, w_220, h_220⟩ := hq9
                        have q_220 := RT.tr q_208 w_220
                        have l_220 := w_220.1.1.2
                        have i_220 := w_220.2.2.1
                        refine tz_goto (pc := 223) (tgt := 227) dX12_term1_223 (by decide) ?_
                        refine tz_istore (pc := 227) (L2 := [_, _, _, _, _, _, _]) dX12_term1_227 (by decide) rfl ?_
                        refine tz_iload_n (pc := 229) dX12_term1_229 rfl rfl ?_
                        refine tz_iconst (pc := 230) dX12_term1_230 ?_
                        refine tz_icmp_leF (pc := 231) (tgt := 240) (by decide) dX12_term1_231 (by decide) (by decide) (by decide) ?_
                        refine tz_aload_n (pc := 234) dX12_term1_234 rfl rfl ?_
                        refine tz_bipush (pc := 235) dX12_term1_235 (by decide) ?_
                        refine tz_cV (pc := 237) (m_sign hl n _ _ (by decide) (q_220).2.1 (by decide)) vl_X12_296 dX12_term1_237 o_164 rfl rfl (Nat.le_of_ble_eq_true rfl) ⟨(show 3 + 1 ≤ 6 + 1 * (r9 + 1) by omega), (show 8 + (2 + 11) + 40 * (3) ≤ 40 * (6 + 1 * (r9 + 1)) by omega)⟩ rfl rfl (Nat.le_of_ble_eq_true rfl) (Nat.le_of_ble_eq_true rfl) (fun r9 J_237 hq9 => ?_)
                        obtain ⟨rfl, w_237, b_237⟩ := hq9
                        have q_237 := RT.w q_220 w_237
                        have i_237 := w_237.2.2.1
                        refine tz_iload_n (pc := 240) dX12_term1_240 rfl rfl ?_
                        refine tz_iconst (pc := 241) dX12_term1_241 ?_
                        refine tz_icmp_leF (pc := 242) (tgt := 255) (by decide) dX12_term1_242 (by decide) (by decide) (by decide) ?_
                        refine tz_aload_n (pc := 245) dX12_term1_245 rfl rfl ?_
                        refine tz_iload_n (pc := 246) dX12_term1_246 rfl rfl ?_
                        refine tz_iconst (pc := 247) dX12_term1_247 ?_
                        refine tz_iadd (pc := 248) (v := x + 1) dX12_term1_248 rfl ?_
                        refine tz_cV (pc := 249) (ih _ _ (by omega) s m_220 (q_237).1.1.1 (q_237).2.1 (q_237).2.2.2.2 (((q_237).f 44 rfl).trans h44) (by omega) (by omega)) vl_X12_298 dX12_term1_249 o_164 rfl rfl (Nat.le_of_ble_eq_true rfl) ⟨(show (6 + 1 * r9) + 1 ≤ 6 + 1 * (r9 + 1) by omega), (show 8 + (7 + 11) + 40 * ((6 + 1 * r9)) ≤ 40 * (6 + 1 * (r9 + 1)) by omega)⟩ rfl rfl (Nat.le_of_ble_eq_true rfl) (Nat.le_of_ble_eq_true rfl) (fun r9 J_249 hq9 => ?_)
                        obtain ⟨z_249, rfl, hz_249, m_249, w_249, h_249⟩ := hq9
                        have q_249 := RT.tr q_237 w_249
                        have l_249 := w_249.1.1.2
                        have i_249 := w_249.2.2.1
                        refine tz_goto (pc := 252) (tgt := 256) dX12_term1_252 (by decide) ?_
                        refine tz_istore (pc := 256) (L2 := [_, _, _, _, _, _, _]) dX12_term1_256 (by decide) rfl ?_
                        refine tz_aload_n (pc := 258) dX12_term1_258 rfl rfl ?_
                        refine tz_bipush (pc := 259) dX12_term1_259 (by decide) ?_
                        refine tz_cV (pc := 261) (m_sign hl n _ _ (by decide) (q_249).2.1 (by decide)) vl_X12_296 dX12_term1_261 o_164 rfl rfl (Nat.le_of_ble_eq_true rfl) ⟨(show 3 + 1 ≤ 6 + 1 * (r9 + 1) by omega), (show 8 + (2 + 11) + 40 * (3) ≤ 40 * (6 + 1 * (r9 + 1)) by omega)⟩ rfl rfl (Nat.le_of_ble_eq_true rfl) (Nat.le_of_ble_eq_true rfl) (fun r9 J_261 hq9 => ?_)
                        obtain ⟨rfl, w_261, b_261⟩ := hq9
                        have q_261 := RT.w q_249 w_261
                        have i_261 := w_261.2.2.1
                        refine tz_aload_n (pc := 264) dX12_term1_264 rfl rfl ?_
                        refine tz_fI (pc := 265) (kz := 43) (v := (J_261 164 43)) dX12_term1_265 fl_X12_273 i_164_43 rfl rfl (fun r_265 => ?_)
                        refine tz_if_ne (pc := 268) (tgt := 285) dX12_term1_268 (by decide) (by omega) (fun h_268 => ?_) (fun h_268 => ?_)
                        · refine tz_iconst (pc := 285) dX12_term1_285 ?_
                          exact tz_iret (pc := 286) (z := 0) dX12_term1_286 rfl (Nat.le_of_ble_eq_true rfl) (Nat.le_of_ble_eq_true rfl) ⟨Nat.le_refl _, Nat.le_add_right _ _⟩ ⟨_, rfl, (by decide), ⟨m_249, q_261, fun q9 => by omega⟩⟩
                        · refine tz_aload_n (pc := 271) dX12_term1_271 rfl rfl ?_
                          refine tz_iload_n (pc := 272) dX12_term1_272 rfl rfl ?_
                          refine tz_iload (pc := 273) dX12_term1_273 rfl ?_
                          refine tz_iload (pc := 275) dX12_term1_275 rfl ?_
                          refine tz_iload (pc := 277) dX12_term1_277 rfl ?_
                          refine tz_cV (pc := 279) (m_tu3 hl n _ _ _ _ _ (by omega) (by omega) (by omega) (by omega) 800 126 10 s m_249 (q_261).1.1.1 (by omega) ⟨by omega, ((congrFun ((q_261).c 170 rfl) _).trans hk9)⟩ (q_261).2.2.2.2 (by omega)) vl_X12_107 dX12_term1_279 o_164 rfl rfl (Nat.le_of_ble_eq_true rfl) ⟨(show 2 + 1 ≤ 6 + 1 * (r9 + 1) by omega), (show 8 + (8 + 11) + 40 * (2) ≤ 40 * (6 + 1 * (r9 + 1)) by omega)⟩ rfl rfl (Nat.le_of_ble_eq_true rfl) (Nat.le_of_ble_eq_true rfl) (fun r9 J_279 hq9 => ?_)
                          obtain ⟨z_279, rfl, hz_279, m_279, g_279, h_279⟩ := hq9
                          have q_279 := RT.t q_261 g_279 (by omega)
                          refine tz_goto (pc := 282) (tgt := 286) dX12_term1_282 (by decide) ?_
                          exact tz_iret (pc := 286) (z := z_279) dX12_term1_286 rfl (Nat.le_of_ble_eq_true rfl) (Nat.le_of_ble_eq_true rfl) ⟨Nat.le_refl _, Nat.le_add_right _ _⟩ ⟨_, rfl, (by omega), ⟨m_279, q_279, fun _ => h_279⟩⟩
                    · refine tz_iconst (pc := 156) dX12_term1_156 ?_
                      exact tz_iret (pc := 157) (z := 0) dX12_term1_157 rfl (Nat.le_of_ble_eq_true rfl) (Nat.le_of_ble_eq_true rfl) ⟨Nat.le_refl _, Nat.le_add_right _ _⟩ ⟨_, rfl, (by decide), ⟨m, q_150, fun q9 => by omega⟩⟩
          · refine tz_aload_n (pc := 48) dX12_term1_48 rfl rfl ?_
            refine tz_iload_n (pc := 49) dX12_term1_49 rfl rfl ?_
            refine tz_bipush (pc := 50) dX12_term1_50 (by decide) ?_
            refine tz_icmp_gt (pc := 52) (tgt := 59) dX12_term1_52 (by decide) (by omega) (by decide) (fun h_52 => ?_) (fun h_52 => ?_)
            · refine tz_iconst (pc := 59) dX12_term1_59 ?_
              refine tz_iconst (pc := 60) dX12_term1_60 ?_
              refine tz_cV (pc := 61) (m_wantsW hl n _ _ _ (by decide) (by decide) (q_31).2.1 (by decide)) vl_X12_276 dX12_term1_61 o_164 rfl rfl (Nat.le_of_ble_eq_true rfl) ⟨(show 0 + 1 ≤ 6 + 1 * (r9 + 1) by omega), (show 8 + (3 + 11) + 40 * (0) ≤ 40 * (6 + 1 * (r9 + 1)) by omega)⟩ rfl rfl (Nat.le_of_ble_eq_true rfl) (Nat.le_of_ble_eq_true rfl) (fun r9 J_61 hq9 => ?_)
              obtain ⟨z_61, rfl, hz_61, w_61, b_61, c_61, d_61⟩ := hq9
              have q_61 := RT.w q_31 w_61
              have i_61 := w_61.2.2.1
              obtain rfl : z_61 = 0 := by rcases b_61 with e9 | e9; exact e9; exact absurd rfl (c_61 e9).2.2
              refine tz_if_neF (pc := 64) (tgt := 69) (by decide) dX12_term1_64 (by decide) (by decide) ?_
              refine tz_iconst (pc := 67) dX12_term1_67 ?_
              exact tz_iret (pc := 68) (z := 0) dX12_term1_68 rfl (Nat.le_of_ble_eq_true rfl) (Nat.le_of_ble_eq_true rfl) ⟨Nat.le_refl _, Nat.le_add_right _ _⟩ ⟨_, rfl, (by decide), ⟨m, q_61, fun q9 => by omega⟩⟩
            · refine tz_iconst (pc := 55) dX12_term1_55 ?_
              refine tz_goto (pc := 56) (tgt := 60) dX12_term1_56 (by decide) ?_
              refine tz_iconst (pc := 60) dX12_term1_60 ?_
              refine tz_cV (pc := 61) (m_wantsW hl n _ _ _ (by decide) (by decide) (q_31).2.1 (by decide)) vl_X12_276 dX12_term1_61 o_164 rfl rfl (Nat.le_of_ble_eq_true rfl) ⟨(show 0 + 1 ≤ 6 + 1 * (r9 + 1) by omega), (show 8 + (3 + 11) + 40 * (0) ≤ 40 * (6 + 1 * (r9 + 1)) by omega)⟩ rfl rfl (Nat.le_of_ble_eq_true rfl) (Nat.le_of_ble_eq_true rfl) (fun r9 J_61 hq9 => ?_)
              obtain ⟨z_61, rfl, hz_61, w_61, b_61, c_61, d_61⟩ := hq9
              have q_61 := RT.w q_31 w_61
              have i_61 := w_61.2.2.1
              have e_61 : z_61 = 1 → J_61 164 43 = 0 := fun q9 => (c_61 q9).2.1
              refine tz_if_ne (pc := 64) (tgt := 69) dX12_term1_64 (by decide) (by omega) (fun h_64 => ?_) (fun h_64 => ?_)
              · refine tz_aload_n (pc := 69) dX12_term1_69 rfl rfl ?_
                refine tz_cV (pc := 70) (m_goW hl n _ (q_61).2.1) vl_X12_280 dX12_term1_70 o_164 rfl rfl (Nat.le_of_ble_eq_true rfl) ⟨(show 2 + 1 ≤ 6 + 1 * (r9 + 1) by omega), (show 8 + (2 + 11) + 40 * (2) ≤ 40 * (6 + 1 * (r9 + 1)) by omega)⟩ rfl rfl (Nat.le_of_ble_eq_true rfl) (Nat.le_of_ble_eq_true rfl) (fun r9 J_70 hq9 => ?_)
                obtain ⟨rfl, w_70, b_70⟩ := hq9
                have q_70 := RT.w q_61 w_70
                refine tz_aload_n (pc := 73) dX12_term1_73 rfl rfl ?_
                refine tz_iconst (pc := 74) dX12_term1_74 ?_
                refine tz_bipush (pc := 75) dX12_term1_75 (by decide) ?_
                refine tz_cV (pc := 77) (m_number hl n _ _ _ (by decide) (by decide) (q_70).2.1 (by decide)) vl_X12_290 dX12_term1_77 o_164 rfl rfl (Nat.le_of_ble_eq_true rfl) ⟨(show 3 + 1 ≤ 6 + 1 * (r9 + 1) by omega), (show 8 + (4 + 11) + 40 * (3) ≤ 40 * (6 + 1 * (r9 + 1)) by omega)⟩ rfl rfl (Nat.le_of_ble_eq_true rfl) (Nat.le_of_ble_eq_true rfl) (fun r9 J_77 hq9 => ?_)
                obtain ⟨z_77, rfl, hz_77, w_77, b_77, d_77⟩ := hq9
                have q_77 := RT.w q_70 w_77
                have i_77 := w_77.2.2.1
                refine tz_istore_n (pc := 80) (L2 := [_, _, _, _, _, _, _]) dX12_term1_80 rfl (by decide) rfl ?_
                refine tz_aload_n (pc := 81) dX12_term1_81 rfl rfl ?_
                refine tz_fI (pc := 82) (kz := 43) (v := (J_77 164 43)) dX12_term1_82 fl_X12_273 i_164_43 rfl rfl (fun r_82 => ?_)
                refine tz_if_ne (pc := 85) (tgt := 96) dX12_term1_85 (by decide) (by omega) (fun h_85 => ?_) (fun h_85 => ?_)
                · refine tz_iconst (pc := 96) dX12_term1_96 ?_
                  exact tz_iret (pc := 97) (z := 0) dX12_term1_97 rfl (Nat.le_of_ble_eq_true rfl) (Nat.le_of_ble_eq_true rfl) ⟨Nat.le_refl _, Nat.le_add_right _ _⟩ ⟨_, rfl, (by decide), ⟨m, q_77, fun q9 => by omega⟩⟩
                · refine tz_aload_n (pc := 88) dX12_term1_88 rfl rfl ?_
                  refine tz_iload_n (pc := 89) dX12_term1_89 rfl rfl ?_
                  refine tz_cV (pc := 90) (m_varTermU hl n _ _ (by omega) 800 126 10 s m (q_77).1.1.1 (by omega) (q_77).2.2.2.2) vl_X12_180 dX12_term1_90 o_164 rfl rfl (Nat.le_of_ble_eq_true rfl) ⟨(show 3 + 1 ≤ 6 + 1 * (r9 + 1) by omega), (show 8 + (2 + 11) + 40 * (3) ≤ 40 * (6 + 1 * (r9 + 1)) by omega)⟩ rfl rfl (Nat.le_of_ble_eq_true rfl) (Nat.le_of_ble_eq_true rfl) (fun r9 J_90 hq9 => ?_)
                  obtain ⟨z_90, rfl, hz_90, m_90, g_90, h_90⟩ := hq9
                  have q_90 := RT.t q_77 g_90 (by omega)
                  refine tz_goto (pc := 93) (tgt := 97) dX12_term1_93 (by decide) ?_
                  exact tz_iret (pc := 97) (z := z_90) dX12_term1_97 rfl (Nat.le_of_ble_eq_true rfl) (Nat.le_of_ble_eq_true rfl) ⟨Nat.le_refl _, Nat.le_add_right _ _⟩ ⟨_, rfl, (by omega), ⟨m_90, q_90, fun _ => h_90⟩⟩
              · refine tz_iconst (pc := 67) dX12_term1_67 ?_
                exact tz_iret (pc := 68) (z := 0) dX12_term1_68 rfl (Nat.le_of_ble_eq_true rfl) (Nat.le_of_ble_eq_true rfl) ⟨Nat.le_refl _, Nat.le_add_right _ _⟩ ⟨_, rfl, (by decide), ⟨m, q_61, fun q9 => by omega⟩⟩
        · refine tz_iconst (pc := 37) dX12_term1_37 ?_
          exact tz_iret (pc := 38) (z := 0) dX12_term1_38 rfl (Nat.le_of_ble_eq_true rfl) (Nat.le_of_ble_eq_true rfl) ⟨Nat.le_refl _, Nat.le_add_right _ _⟩ ⟨_, rfl, (by decide), ⟨m, q_31, fun q9 => by omega⟩⟩
      · refine tz_aload_n (pc := 16) dX12_term1_16 rfl rfl ?_
        refine tz_fI (pc := 17) (kz := 42) (v := (J 164 42)) dX12_term1_17 fl_X12_258 i_164_42 rfl rfl (fun r_17 => ?_)
        refine tz_bipush (pc := 20) dX12_term1_20 (by decide) ?_
        refine tz_icmp_ne (pc := 22) (tgt := 29) dX12_term1_22 (by decide) (by omega) (by decide) (fun h_22 => ?_) (fun h_22 => ?_)
        · refine tz_iconst (pc := 29) dX12_term1_29 ?_
          refine tz_iconst (pc := 30) dX12_term1_30 ?_
          refine tz_cV (pc := 31) (m_wantsW hl n _ _ _ (by decide) (by decide) (g0).2.1 (by decide)) vl_X12_276 dX12_term1_31 o_164 rfl rfl (Nat.le_of_ble_eq_true rfl) ⟨(show 0 + 1 ≤ 6 + 1 * (r9 + 1) by omega), (show 8 + (3 + 11) + 40 * (0) ≤ 40 * (6 + 1 * (r9 + 1)) by omega)⟩ rfl rfl (Nat.le_of_ble_eq_true rfl) (Nat.le_of_ble_eq_true rfl) (fun r9 J_31 hq9 => ?_)
          obtain ⟨z_31, rfl, hz_31, w_31, b_31, c_31, d_31⟩ := hq9
          have q_31 := RT.w g0 w_31
          have i_31 := w_31.2.2.1
          obtain rfl : z_31 = 0 := by rcases b_31 with e9 | e9; exact e9; exact absurd rfl (c_31 e9).2.2
          refine tz_if_neF (pc := 34) (tgt := 39) (by decide) dX12_term1_34 (by decide) (by decide) ?_
          refine tz_iconst (pc := 37) dX12_term1_37 ?_
          exact tz_iret (pc := 38) (z := 0) dX12_term1_38 rfl (Nat.le_of_ble_eq_true rfl) (Nat.le_of_ble_eq_true rfl) ⟨Nat.le_refl _, Nat.le_add_right _ _⟩ ⟨_, rfl, (by decide), ⟨m, q_31, fun q9 => by omega⟩⟩
        · refine tz_iconst (pc := 25) dX12_term1_25 ?_
          refine tz_goto (pc := 26) (tgt := 30) dX12_term1_26 (by decide) ?_
          refine tz_iconst (pc := 30) dX12_term1_30 ?_
          refine tz_cV (pc := 31) (m_wantsW hl n _ _ _ (by decide) (by decide) (g0).2.1 (by decide)) vl_X12_276 dX12_term1_31 o_164 rfl rfl (Nat.le_of_ble_eq_true rfl) ⟨(show 0 + 1 ≤ 6 + 1 * (r9 + 1) by omega), (show 8 + (3 + 11) + 40 * (0) ≤ 40 * (6 + 1 * (r9 + 1)) by omega)⟩ rfl rfl (Nat.le_of_ble_eq_true rfl) (Nat.le_of_ble_eq_true rfl) (fun r9 J_31 hq9 => ?_)
          obtain ⟨z_31, rfl, hz_31, w_31, b_31, c_31, d_31⟩ := hq9
          have q_31 := RT.w g0 w_31
          have i_31 := w_31.2.2.1
          have e_31 : z_31 = 1 → J_31 164 43 = 0 := fun q9 => (c_31 q9).2.1
          refine tz_if_ne (pc := 34) (tgt := 39) dX12_term1_34 (by decide) (by omega) (fun h_34 => ?_) (fun h_34 => ?_)
          · refine tz_aload_n (pc := 39) dX12_term1_39 rfl rfl ?_
            refine tz_fI (pc := 40) (kz := 42) (v := (J_31 164 42)) dX12_term1_40 fl_X12_258 i_164_42 rfl rfl (fun r_40 => ?_)
            refine tz_bipush (pc := 43) dX12_term1_43 (by decide) ?_
            refine tz_icmp_ne (pc := 45) (tgt := 98) dX12_term1_45 (by decide) (by omega) (by decide) (fun h_45 => ?_) (fun h_45 => ?_)
            · refine tz_aload_n (pc := 98) dX12_term1_98 rfl rfl ?_
              refine tz_aload_n (pc := 99) dX12_term1_99 rfl rfl ?_
              refine tz_aload_n (pc := 100) dX12_term1_100 rfl rfl ?_
              refine tz_fI (pc := 101) (kz := 36) (v := (J_31 164 36)) dX12_term1_101 fl_X12_246 i_164_36 rfl rfl (fun r_101 => ?_)
              have y_104 := (q_31).2.1
              have x_104 := y_104.2.1
              refine tz_cV (pc := 104) (m_byteAt hl n _ _ (by omega) (by omega) y_104.1.1.2) vl_X12_240 dX12_term1_104 o_164 rfl rfl (Nat.le_of_ble_eq_true rfl) ⟨(show 0 + 1 ≤ 6 + 1 * (r9 + 1) by omega), (show 8 + (2 + 11) + 40 * (0) ≤ 40 * (6 + 1 * (r9 + 1)) by omega)⟩ rfl rfl (Nat.le_of_ble_eq_true rfl) (Nat.le_of_ble_eq_true rfl) (fun r9 J_104 hq9 => ?_)
              obtain ⟨z_104, rfl, hz_104, rfl, hb_104, hc_104⟩ := hq9
              have s_107 : J_31 164 44 = s := ((q_31).f 44 rfl).trans h44
              refine tz_cV (pc := 107) (m_symOf hl n _ _ (by omega) (by rw [s_107]; omega)) vl_X12_293 dX12_term1_107 o_164 rfl rfl (Nat.le_of_ble_eq_true rfl) ⟨(show 0 + 1 ≤ 6 + 1 * (r9 + 1) by omega), (show 8 + (3 + 11) + 40 * (0) ≤ 40 * (6 + 1 * (r9 + 1)) by omega)⟩ rfl rfl (Nat.le_of_ble_eq_true rfl) (Nat.le_of_ble_eq_true rfl) (fun r9 J_107 hq9 => ?_)
              obtain ⟨z_107, rfl, hz_107, rfl, hs_107⟩ := hq9
              rw [s_107] at hs_107
              refine tz_istore_n (pc := 110) (L2 := [_, _, _, _, _, _, _]) dX12_term1_110 rfl (by decide) rfl ?_
              refine tz_aload_n (pc := 111) dX12_term1_111 rfl rfl ?_
              refine tz_aload_n (pc := 112) dX12_term1_112 rfl rfl ?_
              refine tz_fI (pc := 113) (kz := 41) (v := (J_31 164 41)) dX12_term1_113 fl_X12_252 i_164_41 rfl rfl (fun r_113 => ?_)
              refine tz_iconst (pc := 116) dX12_term1_116 ?_
              refine tz_icmp_ne (pc := 117) (tgt := 130) dX12_term1_117 (by decide) (by omega) (by decide) (fun h_117 => ?_) (fun h_117 => ?_)
              · refine tz_iconst (pc := 130) dX12_term1_130 ?_
                refine tz_iconst (pc := 131) dX12_term1_131 ?_
                refine tz_cV (pc := 132) (m_wantsW hl n _ _ _ (by decide) (by decide) (q_31).2.1 (by decide)) vl_X12_276 dX12_term1_132 o_164 rfl rfl (Nat.le_of_ble_eq_true rfl) ⟨(show 0 + 1 ≤ 6 + 1 * (r9 + 1) by omega), (show 8 + (3 + 11) + 40 * (0) ≤ 40 * (6 + 1 * (r9 + 1)) by omega)⟩ rfl rfl (Nat.le_of_ble_eq_true rfl) (Nat.le_of_ble_eq_true rfl) (fun r9 J_132 hq9 => ?_)
                obtain ⟨z_132, rfl, hz_132, w_132, b_132, c_132, d_132⟩ := hq9
                have q_132 := RT.w q_31 w_132
                have i_132 := w_132.2.2.1
                obtain rfl : z_132 = 0 := by rcases b_132 with e9 | e9; exact e9; exact absurd rfl (c_132 e9).2.2
                refine tz_if_eqT (pc := 135) (tgt := 156) (by decide) dX12_term1_135 (by decide) (by decide) ?_
                refine tz_iconst (pc := 156) dX12_term1_156 ?_
                exact tz_iret (pc := 157) (z := 0) dX12_term1_157 rfl (Nat.le_of_ble_eq_true rfl) (Nat.le_of_ble_eq_true rfl) ⟨Nat.le_refl _, Nat.le_add_right _ _⟩ ⟨_, rfl, (by decide), ⟨m, q_132, fun q9 => by omega⟩⟩
              · refine tz_iload_n (pc := 120) dX12_term1_120 rfl rfl ?_
                refine tz_bipush (pc := 121) dX12_term1_121 (by decide) ?_
                refine tz_icmp_gt (pc := 123) (tgt := 130) dX12_term1_123 (by decide) (by omega) (by decide) (fun h_123 => ?_) (fun h_123 => ?_)
                · refine tz_iconst (pc := 130) dX12_term1_130 ?_
                  refine tz_iconst (pc := 131) dX12_term1_131 ?_
                  refine tz_cV (pc := 132) (m_wantsW hl n _ _ _ (by decide) (by decide) (q_31).2.1 (by decide)) vl_X12_276 dX12_term1_132 o_164 rfl rfl (Nat.le_of_ble_eq_true rfl) ⟨(show 0 + 1 ≤ 6 + 1 * (r9 + 1) by omega), (show 8 + (3 + 11) + 40 * (0) ≤ 40 * (6 + 1 * (r9 + 1)) by omega)⟩ rfl rfl (Nat.le_of_ble_eq_true rfl) (Nat.le_of_ble_eq_true rfl) (fun r9 J_132 hq9 => ?_)
                  obtain ⟨z_132, rfl, hz_132, w_132, b_132, c_132, d_132⟩ := hq9
                  have q_132 := RT.w q_31 w_132
                  have i_132 := w_132.2.2.1
                  obtain rfl : z_132 = 0 := by rcases b_132 with e9 | e9; exact e9; exact absurd rfl (c_132 e9).2.2
                  refine tz_if_eqT (pc := 135) (tgt := 156) (by decide) dX12_term1_135 (by decide) (by decide) ?_
                  refine tz_iconst (pc := 156) dX12_term1_156 ?_
                  exact tz_iret (pc := 157) (z := 0) dX12_term1_157 rfl (Nat.le_of_ble_eq_true rfl) (Nat.le_of_ble_eq_true rfl) ⟨Nat.le_refl _, Nat.le_add_right _ _⟩ ⟨_, rfl, (by decide), ⟨m, q_132, fun q9 => by omega⟩⟩
                · refine tz_iconst (pc := 126) dX12_term1_126 ?_
                  refine tz_goto (pc := 127) (tgt := 131) dX12_term1_127 (by decide) ?_
                  refine tz_iconst (pc := 131) dX12_term1_131 ?_
                  refine tz_cV (pc := 132) (m_wantsW hl n _ _ _ (by decide) (by decide) (q_31).2.1 (by decide)) vl_X12_276 dX12_term1_132 o_164 rfl rfl (Nat.le_of_ble_eq_true rfl) ⟨(show 0 + 1 ≤ 6 + 1 * (r9 + 1) by omega), (show 8 + (3 + 11) + 40 * (0) ≤ 40 * (6 + 1 * (r9 + 1)) by omega)⟩ rfl rfl (Nat.le_of_ble_eq_true rfl) (Nat.le_of_ble_eq_true rfl) (fun r9 J_132 hq9 => ?_)
                  obtain ⟨z_132, rfl, hz_132, w_132, b_132, c_132, d_132⟩ := hq9
                  have q_132 := RT.w q_31 w_132
                  have i_132 := w_132.2.2.1
                  have e_132 : z_132 = 1 → J_132 164 43 = 0 := fun q9 => (c_132 q9).2.1
                  refine tz_if_eq (pc := 135) (tgt := 156) dX12_term1_135 (by decide) (by omega) (fun h_135 => ?_) (fun h_135 => ?_)
                  · refine tz_iconst (pc := 156) dX12_term1_156 ?_
                    exact tz_iret (pc := 157) (z := 0) dX12_term1_157 rfl (Nat.le_of_ble_eq_true rfl) (Nat.le_of_ble_eq_true rfl) ⟨Nat.le_refl _, Nat.le_add_right _ _⟩ ⟨_, rfl, (by decide), ⟨m, q_132, fun q9 => by omega⟩⟩
                  · refine tz_aload_n (pc := 138) dX12_term1_138 rfl rfl ?_
                    refine tz_iload_n (pc := 139) dX12_term1_139 rfl rfl ?_
                    refine tz_iconst (pc := 140) dX12_term1_140 ?_
                    refine tz_icmp_eq (pc := 141) (tgt := 148) dX12_term1_141 (by decide) (by omega) (by decide) (fun h_141 => ?_) (fun h_141 => ?_)
                    · refine tz_iconst (pc := 148) dX12_term1_148 ?_
                      refine tz_iconst (pc := 149) dX12_term1_149 ?_
                      refine tz_cV (pc := 150) (m_wantsW hl n _ _ _ (by decide) (by decide) (q_132).2.1 (by decide)) vl_X12_276 dX12_term1_150 o_164 rfl rfl (Nat.le_of_ble_eq_true rfl) ⟨(show 0 + 1 ≤ 6 + 1 * (r9 + 1) by omega), (show 8 + (3 + 11) + 40 * (0) ≤ 40 * (6 + 1 * (r9 + 1)) by omega)⟩ rfl rfl (Nat.le_of_ble_eq_true rfl) (Nat.le_of_ble_eq_true rfl) (fun r9 J_150 hq9 => ?_)
                      obtain ⟨z_150, rfl, hz_150, w_150, b_150, c_150, d_150⟩ := hq9
                      have q_150 := RT.w q_132 w_150
                      have i_150 := w_150.2.2.1
                      obtain rfl : z_150 = 0 := by rcases b_150 with e9 | e9; exact e9; exact absurd rfl (c_150 e9).2.2
                      refine tz_if_neF (pc := 153) (tgt := 158) (by decide) dX12_term1_153 (by decide) (by decide) ?_
                      refine tz_iconst (pc := 156) dX12_term1_156 ?_
                      exact tz_iret (pc := 157) (z := 0) dX12_term1_157 rfl (Nat.le_of_ble_eq_true rfl) (Nat.le_of_ble_eq_true rfl) ⟨Nat.le_refl _, Nat.le_add_right _ _⟩ ⟨_, rfl, (by decide), ⟨m, q_150, fun q9 => by omega⟩⟩
                    · refine tz_iconst (pc := 144) dX12_term1_144 ?_
                      refine tz_goto (pc := 145) (tgt := 149) dX12_term1_145 (by decide) ?_
                      refine tz_iconst (pc := 149) dX12_term1_149 ?_
                      refine tz_cV (pc := 150) (m_wantsW hl n _ _ _ (by decide) (by decide) (q_132).2.1 (by decide)) vl_X12_276 dX12_term1_150 o_164 rfl rfl (Nat.le_of_ble_eq_true rfl) ⟨(show 0 + 1 ≤ 6 + 1 * (r9 + 1) by omega), (show 8 + (3 + 11) + 40 * (0) ≤ 40 * (6 + 1 * (r9 + 1)) by omega)⟩ rfl rfl (Nat.le_of_ble_eq_true rfl) (Nat.le_of_ble_eq_true rfl) (fun r9 J_150 hq9 => ?_)
                      obtain ⟨z_150, rfl, hz_150, w_150, b_150, c_150, d_150⟩ := hq9
                      have q_150 := RT.w q_132 w_150
                      have i_150 := w_150.2.2.1
                      have e_150 : z_150 = 1 → J_150 164 43 = 0 := fun q9 => (c_150 q9).2.1
                      refine tz_if_ne (pc := 153) (tgt := 158) dX12_term1_153 (by decide) (by omega) (fun h_153 => ?_) (fun h_153 => ?_)
                      · refine tz_aload_n (pc := 158) dX12_term1_158 rfl rfl ?_
                        refine tz_cV (pc := 159) (m_goW hl n _ (q_150).2.1) vl_X12_280 dX12_term1_159 o_164 rfl rfl (Nat.le_of_ble_eq_true rfl) ⟨(show 2 + 1 ≤ 6 + 1 * (r9 + 1) by omega), (show 8 + (2 + 11) + 40 * (2) ≤ 40 * (6 + 1 * (r9 + 1)) by omega)⟩ rfl rfl (Nat.le_of_ble_eq_true rfl) (Nat.le_of_ble_eq_true rfl) (fun r9 J_159 hq9 => ?_)
                        obtain ⟨rfl, w_159, b_159⟩ := hq9
                        have q_159 := RT.w q_150 w_159
                        refine tz_aload_n (pc := 162) dX12_term1_162 rfl rfl ?_
                        refine tz_fR (pc := 163) dX12_term1_163 fl_X12_25 r_164_5 ?_
                        refine tz_bipush (pc := 166) dX12_term1_166 (by decide) ?_
                        refine tz_iload_n (pc := 168) dX12_term1_168 rfl rfl ?_
                        refine tz_iadd (pc := 169) (v := 10 + z_107) dX12_term1_169 rfl ?_
                        refine tz_aL (pc := 170) (z := (10 + z_107)) (v := (J 170 (10 + z_107))) dX12_term1_170 a_170 rfl (by omega) (Eq.trans (congrFun (w_159.1.1 170 rfl) (10 + z_107)) (Eq.trans (congrFun (w_150.1.1 170 rfl) (10 + z_107)) (Eq.trans (congrFun (w_132.1.1 170 rfl) (10 + z_107)) (Eq.trans (congrFun (w_31.1.1 170 rfl) (10 + z_107)) rfl)))) (fun r_170 => ?_)
                        have hA9 := hM.2.2.2.2.2.1.2 z_107 (by omega) (by omega)
                        have hA8 : 0 ≤ J 170 (10 + z_107) ∧ J 170 (10 + z_107) ≤ 3 := hA9
                        rcases (show J 170 (10 + z_107) = 0 ∨ J 170 (10 + z_107) = 1 ∨ J 170 (10 + z_107) = 2 ∨ J 170 (10 + z_107) = 3 by omega) with hk9 | hk9 | hk9 | hk9
                        · rw [hk9]
                          refine tz_istore_n (pc := 171) (L2 := [_, _, _, _, _, _, _]) dX12_term1_171 rfl (by decide) rfl ?_
                          refine tz_iconst (pc := 172) dX12_term1_172 ?_
                          refine tz_istore (pc := 173) (L2 := [_, _, _, _, _, _, _]) dX12_term1_173 (by decide) rfl ?_
                          refine tz_iconst (pc := 175) dX12_term1_175 ?_
                          refine tz_istore (pc := 176) (L2 := [_, _, _, _, _, _, _]) dX12_term1_176 (by decide) rfl ?_
                          refine tz_iconst (pc := 178) dX12_term1_178 ?_
                          refine tz_istore (pc := 179) (L2 := [_, _, _, _, _, _, _]) dX12_term1_179 (by decide) rfl ?_
                          refine tz_iload_n (pc := 181) dX12_term1_181 rfl rfl ?_
                          refine tz_if_leT (pc := 182) (tgt := 264) (by decide) dX12_term1_182 (by decide) (by decide) ?_
                          refine tz_aload_n (pc := 264) dX12_term1_264 rfl rfl ?_
                          refine tz_fI (pc := 265) (kz := 43) (v := (J_159 164 43)) dX12_term1_265 fl_X12_273 i_164_43 rfl rfl (fun r_265 => ?_)
                          refine tz_if_ne (pc := 268) (tgt := 285) dX12_term1_268 (by decide) (by omega) (fun h_268 => ?_) (fun h_268 => ?_)
                          · refine tz_iconst (pc := 285) dX12_term1_285 ?_
                            exact tz_iret (pc := 286) (z := 0) dX12_term1_286 rfl (Nat.le_of_ble_eq_true rfl) (Nat.le_of_ble_eq_true rfl) ⟨Nat.le_refl _, Nat.le_add_right _ _⟩ ⟨_, rfl, (by decide), ⟨m, q_159, fun q9 => by omega⟩⟩
                          · refine tz_aload_n (pc := 271) dX12_term1_271 rfl rfl ?_
                            refine tz_iload_n (pc := 272) dX12_term1_272 rfl rfl ?_
                            refine tz_iload (pc := 273) dX12_term1_273 rfl ?_
                            refine tz_iload (pc := 275) dX12_term1_275 rfl ?_
                            refine tz_iload (pc := 277) dX12_term1_277 rfl ?_
                            refine tz_cV (pc := 279) (m_tu0 hl n _ _ _ _ _ (by omega) (by decide) (by decide) (by decide) 800 126 10 s m (q_159).1.1.1 (by omega) ⟨by omega, ((congrFun ((q_159).c 170 rfl) _).trans hk9)⟩ (q_159).2.2.2.2 (by omega)) vl_X12_107 dX12_term1_279 o_164 rfl rfl (Nat.le_of_ble_eq_true rfl) ⟨(show 2 + 1 ≤ 6 + 1 * (r9 + 1) by omega), (show 8 + (8 + 11) + 40 * (2) ≤ 40 * (6 + 1 * (r9 + 1)) by omega)⟩ rfl rfl (Nat.le_of_ble_eq_true rfl) (Nat.le_of_ble_eq_true rfl) (fun r9 J_279 hq9 => ?_)
                            obtain ⟨z_279, rfl, hz_279, m_279, g_279, h_279⟩ := hq9
                            have q_279 := RT.t q_159 g_279 (by omega)
                            refine tz_goto (pc := 282) (tgt := 286) dX12_term1_282 (by decide) ?_
                            exact tz_iret (pc := 286) (z := z_279) dX12_term1_286 rfl (Nat.le_of_ble_eq_true rfl) (Nat.le_of_ble_eq_true rfl) ⟨Nat.le_refl _, Nat.le_add_right _ _⟩ ⟨_, rfl, (by omega), ⟨m_279, q_279, fun _ => h_279⟩⟩
                        · rw [hk9]
                          refine tz_istore_n (pc := 171) (L2 := [_, _, _, _, _, _, _]) dX12_term1_171 rfl (by decide) rfl ?_
                          refine tz_iconst (pc := 172) dX12_term1_172 ?_
                          refine tz_istore (pc := 173) (L2 := [_, _, _, _, _, _, _]) dX12_term1_173 (by decide) rfl ?_
                          refine tz_iconst (pc := 175) dX12_term1_175 ?_
                          refine tz_istore (pc := 176) (L2 := [_, _, _, _, _, _, _]) dX12_term1_176 (by decide) rfl ?_
                          refine tz_iconst (pc := 178) dX12_term1_178 ?_
                          refine tz_istore (pc := 179) (L2 := [_, _, _, _, _, _, _]) dX12_term1_179 (by decide) rfl ?_
                          refine tz_iload_n (pc := 181) dX12_term1_181 rfl rfl ?_
                          refine tz_if_leF (pc := 182) (tgt := 264) (by decide) dX12_term1_182 (by decide) (by decide) ?_
                          refine tz_aload_n (pc := 185) dX12_term1_185 rfl rfl ?_
                          refine tz_bipush (pc := 186) dX12_term1_186 (by decide) ?_
                          refine tz_cV (pc := 188) (m_sign hl n _ _ (by decide) (q_159).2.1 (by decide)) vl_X12_296 dX12_term1_188 o_164 rfl rfl (Nat.le_of_ble_eq_true rfl) ⟨(show 3 + 1 ≤ 6 + 1 * (r9 + 1) by omega), (show 8 + (2 + 11) + 40 * (3) ≤ 40 * (6 + 1 * (r9 + 1)) by omega)⟩ rfl rfl (Nat.le_of_ble_eq_true rfl) (Nat.le_of_ble_eq_true rfl) (fun r9 J_188 hq9 => ?_)
                          obtain ⟨rfl, w_188, b_188⟩ := hq9
                          have q_188 := RT.w q_159 w_188
                          have i_188 := w_188.2.2.1
                          refine tz_aload_n (pc := 191) dX12_term1_191 rfl rfl ?_
                          refine tz_iload_n (pc := 192) dX12_term1_192 rfl rfl ?_
                          refine tz_iconst (pc := 193) dX12_term1_193 ?_
                          refine tz_iadd (pc := 194) (v := x + 1) dX12_term1_194 rfl ?_
                          refine tz_cV (pc := 195) (ih _ _ (by omega) s m (q_188).1.1.1 (q_188).2.1 (q_188).2.2.2.2 (((q_188).f 44 rfl).trans h44) (by omega) (by omega)) vl_X12_298 dX12_term1_195 o_164 rfl rfl (Nat.le_of_ble_eq_true rfl) ⟨(show (6 + 1 * r9) + 1 ≤ 6 + 1 * (r9 + 1) by omega), (show 8 + (7 + 11) + 40 * ((6 + 1 * r9)) ≤ 40 * (6 + 1 * (r9 + 1)) by omega)⟩ rfl rfl (Nat.le_of_ble_eq_true rfl) (Nat.le_of_ble_eq_true rfl) (fun r9 J_195 hq9 => ?_)
                          obtain ⟨z_195, rfl, hz_195, m_195, w_195, h_195⟩ := hq9
                          have q_195 := RT.tr q_188 w_195
                          have l_195 := w_195.1.1.2
                          have i_195 := w_195.2.2.1
                          refine tz_istore (pc := 198) (L2 := [_, _, _, _, _, _, _]) dX12_term1_198 (by decide) rfl ?_
                          refine tz_iload_n (pc := 200) dX12_term1_200 rfl rfl ?_
                          refine tz_iconst (pc := 201) dX12_term1_201 ?_
                          refine tz_icmp_leT (pc := 202) (tgt := 211) (by decide) dX12_term1_202 (by decide) (by decide) (by decide) ?_
                          refine tz_iload_n (pc := 211) dX12_term1_211 rfl rfl ?_
                          refine tz_iconst (pc := 212) dX12_term1_212 ?_
                          refine tz_icmp_leT (pc := 213) (tgt := 226) (by decide) dX12_term1_213 (by decide) (by decide) (by decide) ?_
                          refine tz_iconst (pc := 226) dX12_term1_226 ?_
                          refine tz_istore (pc := 227) (L2 := [_, _, _, _, _, _, _]) dX12_term1_227 (by decide) rfl ?_
                          refine tz_iload_n (pc := 229) dX12_term1_229 rfl rfl ?_
                          refine tz_iconst (pc := 230) dX12_term1_230 ?_
                          refine tz_icmp_leT (pc := 231) (tgt := 240) (by decide) dX12_term1_231 (by decide) (by decide) (by decide) ?_
                          refine tz_iload_n (pc := 240) dX12_term1_240 rfl rfl ?_
                          refine tz_iconst (pc := 241) dX12_term1_241 ?_
                          refine tz_icmp_leT (pc := 242) (tgt := 255) (by decide) dX12_term1_242 (by decide) (by decide) (by decide) ?_
                          refine tz_iconst (pc := 255) dX12_term1_255 ?_
                          refine tz_istore (pc := 256) (L2 := [_, _, _, _, _, _, _]) dX12_term1_256 (by decide) rfl ?_
                          refine tz_aload_n (pc := 258) dX12_term1_258 rfl rfl ?_
                          refine tz_bipush (pc := 259) dX12_term1_259 (by decide) ?_
                          refine tz_cV (pc := 261) (m_sign hl n _ _ (by decide) (q_195).2.1 (by decide)) vl_X12_296 dX12_term1_261 o_164 rfl rfl (Nat.le_of_ble_eq_true rfl) ⟨(show 3 + 1 ≤ 6 + 1 * (r9 + 1) by omega), (show 8 + (2 + 11) + 40 * (3) ≤ 40 * (6 + 1 * (r9 + 1)) by omega)⟩ rfl rfl (Nat.le_of_ble_eq_true rfl) (Nat.le_of_ble_eq_true rfl) (fun r9 J_261 hq9 => ?_)
                          obtain ⟨rfl, w_261, b_261⟩ := hq9
                          have q_261 := RT.w q_195 w_261
                          have i_261 := w_261.2.2.1
                          refine tz_aload_n (pc := 264) dX12_term1_264 rfl rfl ?_
                          refine tz_fI (pc := 265) (kz := 43) (v := (J_261 164 43)) dX12_term1_265 fl_X12_273 i_164_43 rfl rfl (fun r_265 => ?_)
                          refine tz_if_ne (pc := 268) (tgt := 285) dX12_term1_268 (by decide) (by omega) (fun h_268 => ?_) (fun h_268 => ?_)
                          · refine tz_iconst (pc := 285) dX12_term1_285 ?_
                            exact tz_iret (pc := 286) (z := 0) dX12_term1_286 rfl (Nat.le_of_ble_eq_true rfl) (Nat.le_of_ble_eq_true rfl) ⟨Nat.le_refl _, Nat.le_add_right _ _⟩ ⟨_, rfl, (by decide), ⟨m_195, q_261, fun q9 => by omega⟩⟩
                          · refine tz_aload_n (pc := 271) dX12_term1_271 rfl rfl ?_
                            refine tz_iload_n (pc := 272) dX12_term1_272 rfl rfl ?_
                            refine tz_iload (pc := 273) dX12_term1_273 rfl ?_
                            refine tz_iload (pc := 275) dX12_term1_275 rfl ?_
                            refine tz_iload (pc := 277) dX12_term1_277 rfl ?_
                            refine tz_cV (pc := 279) (m_tu1 hl n _ _ _ _ _ (by omega) (by omega) (by decide) (by decide) 800 126 10 s m_195 (q_261).1.1.1 (by omega) ⟨by omega, ((congrFun ((q_261).c 170 rfl) _).trans hk9)⟩ (q_261).2.2.2.2 (by omega)) vl_X12_107 dX12_term1_279 o_164 rfl rfl (Nat.le_of_ble_eq_true rfl) ⟨(show 2 + 1 ≤ 6 + 1 * (r9 + 1) by omega), (show 8 + (8 + 11) + 40 * (2) ≤ 40 * (6 + 1 * (r9 + 1)) by omega)⟩ rfl rfl (Nat.le_of_ble_eq_true rfl) (Nat.le_of_ble_eq_true rfl) (fun r9 J_279 hq9 => ?_)
                            obtain ⟨z_279, rfl, hz_279, m_279, g_279, h_279⟩ := hq9
                            have q_279 := RT.t q_261 g_279 (by omega)
                            refine tz_goto (pc := 282) (tgt := 286) dX12_term1_282 (by decide) ?_
                            exact tz_iret (pc := 286) (z := z_279) dX12_term1_286 rfl (Nat.le_of_ble_eq_true rfl) (Nat.le_of_ble_eq_true rfl) ⟨Nat.le_refl _, Nat.le_add_right _ _⟩ ⟨_, rfl, (by omega), ⟨m_279, q_279, fun _ => h_279⟩⟩
                        · rw [hk9]
                          refine tz_istore_n (pc := 171) (L2 := [_, _, _, _, _, _, _]) dX12_term1_171 rfl (by decide) rfl ?_
                          refine tz_iconst (pc := 172) dX12_term1_172 ?_
                          refine tz_istore (pc := 173) (L2 := [_, _, _, _, _, _, _]) dX12_term1_173 (by decide) rfl ?_
                          refine tz_iconst (pc := 175) dX12_term1_175 ?_
                          refine tz_istore (pc := 176) (L2 := [_, _, _, _, _, _, _]) dX12_term1_176 (by decide) rfl ?_
                          refine tz_iconst (pc := 178) dX12_term1_178 ?_
                          refine tz_istore (pc := 179) (L2 := [_, _, _, _, _, _, _]) dX12_term1_179 (by decide) rfl ?_
                          refine tz_iload_n (pc := 181) dX12_term1_181 rfl rfl ?_
                          refine tz_if_leF (pc := 182) (tgt := 264) (by decide) dX12_term1_182 (by decide) (by decide) ?_
                          refine tz_aload_n (pc := 185) dX12_term1_185 rfl rfl ?_
                          refine tz_bipush (pc := 186) dX12_term1_186 (by decide) ?_
                          refine tz_cV (pc := 188) (m_sign hl n _ _ (by decide) (q_159).2.1 (by decide)) vl_X12_296 dX12_term1_188 o_164 rfl rfl (Nat.le_of_ble_eq_true rfl) ⟨(show 3 + 1 ≤ 6 + 1 * (r9 + 1) by omega), (show 8 + (2 + 11) + 40 * (3) ≤ 40 * (6 + 1 * (r9 + 1)) by omega)⟩ rfl rfl (Nat.le_of_ble_eq_true rfl) (Nat.le_of_ble_eq_true rfl) (fun r9 J_188 hq9 => ?_)
                          obtain ⟨rfl, w_188, b_188⟩ := hq9
                          have q_188 := RT.w q_159 w_188
                          have i_188 := w_188.2.2.1
                          refine tz_aload_n (pc := 191) dX12_term1_191 rfl rfl ?_
                          refine tz_iload_n (pc := 192) dX12_term1_192 rfl rfl ?_
                          refine tz_iconst (pc := 193) dX12_term1_193 ?_
                          refine tz_iadd (pc := 194) (v := x + 1) dX12_term1_194 rfl ?_
                          refine tz_cV (pc := 195) (ih _ _ (by omega) s m (q_188).1.1.1 (q_188).2.1 (q_188).2.2.2.2 (((q_188).f 44 rfl).trans h44) (by omega) (by omega)) vl_X12_298 dX12_term1_195 o_164 rfl rfl (Nat.le_of_ble_eq_true rfl) ⟨(show (6 + 1 * r9) + 1 ≤ 6 + 1 * (r9 + 1) by omega), (show 8 + (7 + 11) + 40 * ((6 + 1 * r9)) ≤ 40 * (6 + 1 * (r9 + 1)) by omega)⟩ rfl rfl (Nat.le_of_ble_eq_true rfl) (Nat.le_of_ble_eq_true rfl) (fun r9 J_195 hq9 => ?_)
                          obtain ⟨z_195, rfl, hz_195, m_195, w_195, h_195⟩ := hq9
                          have q_195 := RT.tr q_188 w_195
                          have l_195 := w_195.1.1.2
                          have i_195 := w_195.2.2.1
                          refine tz_istore (pc := 198) (L2 := [_, _, _, _, _, _, _]) dX12_term1_198 (by decide) rfl ?_
                          refine tz_iload_n (pc := 200) dX12_term1_200 rfl rfl ?_
                          refine tz_iconst (pc := 201) dX12_term1_201 ?_
                          refine tz_icmp_leF (pc := 202) (tgt := 211) (by decide) dX12_term1_202 (by decide) (by decide) (by decide) ?_
                          refine tz_aload_n (pc := 205) dX12_term1_205 rfl rfl ?_
                          refine tz_bipush (pc := 206) dX12_term1_206 (by decide) ?_
                          refine tz_cV (pc := 208) (m_sign hl n _ _ (by decide) (q_195).2.1 (by decide)) vl_X12_296 dX12_term1_208 o_164 rfl rfl (Nat.le_of_ble_eq_true rfl) ⟨(show 3 + 1 ≤ 6 + 1 * (r9 + 1) by omega), (show 8 + (2 + 11) + 40 * (3) ≤ 40 * (6 + 1 * (r9 + 1)) by omega)⟩ rfl rfl (Nat.le_of_ble_eq_true rfl) (Nat.le_of_ble_eq_true rfl) (fun r9 J_208 hq9 => ?_)
                          obtain ⟨rfl, w_208, b_208⟩ := hq9
                          have q_208 := RT.w q_195 w_208
                          have i_208 := w_208.2.2.1
                          refine tz_iload_n (pc := 211) dX12_term1_211 rfl rfl ?_
                          refine tz_iconst (pc := 212) dX12_term1_212 ?_
                          refine tz_icmp_leF (pc := 213) (tgt := 226) (by decide) dX12_term1_213 (by decide) (by decide) (by decide) ?_
                          refine tz_aload_n (pc := 216) dX12_term1_216 rfl rfl ?_
                          refine tz_iload_n (pc := 217) dX12_term1_217 rfl rfl ?_
                          refine tz_iconst (pc := 218) dX12_term1_218 ?_
                          refine tz_iadd (pc := 219) (v := x + 1) dX12_term1_219 rfl ?_
                          refine tz_cV (pc := 220) (ih _ _ (by omega) s m_195 (q_208).1.1.1 (q_208).2.1 (q_208).2.2.2.2 (((q_208).f 44 rfl).trans h44) (by omega) (by omega)) vl_X12_298 dX12_term1_220 o_164 rfl rfl (Nat.le_of_ble_eq_true rfl) ⟨(show (6 + 1 * r9) + 1 ≤ 6 + 1 * (r9 + 1) by omega), (show 8 + (7 + 11) + 40 * ((6 + 1 * r9)) ≤ 40 * (6 + 1 * (r9 + 1)) by omega)⟩ rfl rfl (Nat.le_of_ble_eq_true rfl) (Nat.le_of_ble_eq_true rfl) (fun r9 J_220 hq9 => ?_)
                          obtain ⟨z_220, rfl, hz_220, m_220, w_220, h_220⟩ := hq9
                          have q_220 := RT.tr q_208 w_220
                          have l_220 := w_220.1.1.2
                          have i_220 := w_220.2.2.1
                          refine tz_goto (pc := 223) (tgt := 227) dX12_term1_223 (by decide) ?_
                          refine tz_istore (pc := 227) (L2 := [_, _, _, _, _, _, _]) dX12_term1_227 (by decide) rfl ?_
                          refine tz_iload_n (pc := 229) dX12_term1_229 rfl rfl ?_
                          refine tz_iconst (pc := 230) dX12_term1_230 ?_
                          refine tz_icmp_leT (pc := 231) (tgt := 240) (by decide) dX12_term1_231 (by decide) (by decide) (by decide) ?_
                          refine tz_iload_n (pc := 240) dX12_term1_240 rfl rfl ?_
                          refine tz_iconst (pc := 241) dX12_term1_241 ?_
                          refine tz_icmp_leT (pc := 242) (tgt := 255) (by decide) dX12_term1_242 (by decide) (by decide) (by decide) ?_
                          refine tz_iconst (pc := 255) dX12_term1_255 ?_
                          refine tz_istore (pc := 256) (L2 := [_, _, _, _, _, _, _]) dX12_term1_256 (by decide) rfl ?_
                          refine tz_aload_n (pc := 258) dX12_term1_258 rfl rfl ?_
                          refine tz_bipush (pc := 259) dX12_term1_259 (by decide) ?_
                          refine tz_cV (pc := 261) (m_sign hl n _ _ (by decide) (q_220).2.1 (by decide)) vl_X12_296 dX12_term1_261 o_164 rfl rfl (Nat.le_of_ble_eq_true rfl) ⟨(show 3 + 1 ≤ 6 + 1 * (r9 + 1) by omega), (show 8 + (2 + 11) + 40 * (3) ≤ 40 * (6 + 1 * (r9 + 1)) by omega)⟩ rfl rfl (Nat.le_of_ble_eq_true rfl) (Nat.le_of_ble_eq_true rfl) (fun r9 J_261 hq9 => ?_)
                          obtain ⟨rfl, w_261, b_261⟩ := hq9
                          have q_261 := RT.w q_220 w_261
                          have i_261 := w_261.2.2.1
                          refine tz_aload_n (pc := 264) dX12_term1_264 rfl rfl ?_
                          refine tz_fI (pc := 265) (kz := 43) (v := (J_261 164 43)) dX12_term1_265 fl_X12_273 i_164_43 rfl rfl (fun r_265 => ?_)
                          refine tz_if_ne (pc := 268) (tgt := 285) dX12_term1_268 (by decide) (by omega) (fun h_268 => ?_) (fun h_268 => ?_)
                          · refine tz_iconst (pc := 285) dX12_term1_285 ?_
                            exact tz_iret (pc := 286) (z := 0) dX12_term1_286 rfl (Nat.le_of_ble_eq_true rfl) (Nat.le_of_ble_eq_true rfl) ⟨Nat.le_refl _, Nat.le_add_right _ _⟩ ⟨_, rfl, (by decide), ⟨m_220, q_261, fun q9 => by omega⟩⟩
                          · refine tz_aload_n (pc := 271) dX12_term1_271 rfl rfl ?_
                            refine tz_iload_n (pc := 272) dX12_term1_272 rfl rfl ?_
                            refine tz_iload (pc := 273) dX12_term1_273 rfl ?_
                            refine tz_iload (pc := 275) dX12_term1_275 rfl ?_
                            refine tz_iload (pc := 277) dX12_term1_277 rfl ?_
                            refine tz_cV (pc := 279) (m_tu2 hl n _ _ _ _ _ (by omega) (by omega) (by omega) (by decide) 800 126 10 s m_220 (q_261).1.1.1 (by omega) ⟨by omega, ((congrFun ((q_261).c 170 rfl) _).trans hk9)⟩ (q_261).2.2.2.2 (by omega)) vl_X12_107 dX12_term1_279 o_164 rfl rfl (Nat.le_of_ble_eq_true rfl) ⟨(show 2 + 1 ≤ 6 + 1 * (r9 + 1) by omega), (show 8 + (8 + 11) + 40 * (2) ≤ 40 * (6 + 1 * (r9 + 1)) by omega)⟩ rfl rfl (Nat.le_of_ble_eq_true rfl) (Nat.le_of_ble_eq_true rfl) (fun r9 J_279 hq9 => ?_)
                            obtain ⟨z_279, rfl, hz_279, m_279, g_279, h_279⟩ := hq9
                            have q_279 := RT.t q_261 g_279 (by omega)
                            refine tz_goto (pc := 282) (tgt := 286) dX12_term1_282 (by decide) ?_
                            exact tz_iret (pc := 286) (z := z_279) dX12_term1_286 rfl (Nat.le_of_ble_eq_true rfl) (Nat.le_of_ble_eq_true rfl) ⟨Nat.le_refl _, Nat.le_add_right _ _⟩ ⟨_, rfl, (by omega), ⟨m_279, q_279, fun _ => h_279⟩⟩
                        · rw [hk9]
                          refine tz_istore_n (pc := 171) (L2 := [_, _, _, _, _, _, _]) dX12_term1_171 rfl (by decide) rfl ?_
                          refine tz_iconst (pc := 172) dX12_term1_172 ?_
                          refine tz_istore (pc := 173) (L2 := [_, _, _, _, _, _, _]) dX12_term1_173 (by decide) rfl ?_
                          refine tz_iconst (pc := 175) dX12_term1_175 ?_
                          refine tz_istore (pc := 176) (L2 := [_, _, _, _, _, _, _]) dX12_term1_176 (by decide) rfl ?_
                          refine tz_iconst (pc := 178) dX12_term1_178 ?_
                          refine tz_istore (pc := 179) (L2 := [_, _, _, _, _, _, _]) dX12_term1_179 (by decide) rfl ?_
                          refine tz_iload_n (pc := 181) dX12_term1_181 rfl rfl ?_
                          refine tz_if_leF (pc := 182) (tgt := 264) (by decide) dX12_term1_182 (by decide) (by decide) ?_
                          refine tz_aload_n (pc := 185) dX12_term1_185 rfl rfl ?_
                          refine tz_bipush (pc := 186) dX12_term1_186 (by decide) ?_
                          refine tz_cV (pc := 188) (m_sign hl n _ _ (by decide) (q_159).2.1 (by decide)) vl_X12_296 dX12_term1_188 o_164 rfl rfl (Nat.le_of_ble_eq_true rfl) ⟨(show 3 + 1 ≤ 6 + 1 * (r9 + 1) by omega), (show 8 + (2 + 11) + 40 * (3) ≤ 40 * (6 + 1 * (r9 + 1)) by omega)⟩ rfl rfl (Nat.le_of_ble_eq_true rfl) (Nat.le_of_ble_eq_true rfl) (fun r9 J_188 hq9 => ?_)
                          obtain ⟨rfl, w_188, b_188⟩ := hq9
                          have q_188 := RT.w q_159 w_188
                          have i_188 := w_188.2.2.1
                          refine tz_aload_n (pc := 191) dX12_term1_191 rfl rfl ?_
                          refine tz_iload_n (pc := 192) dX12_term1_192 rfl rfl ?_
                          refine tz_iconst (pc := 193) dX12_term1_193 ?_
                          refine tz_iadd (pc := 194) (v := x + 1) dX12_term1_194 rfl ?_
                          refine tz_cV (pc := 195) (ih _ _ (by omega) s m (q_188).1.1.1 (q_188).2.1 (q_188).2.2.2.2 (((q_188).f 44 rfl).trans h44) (by omega) (by omega)) vl_X12_298 dX12_term1_195 o_164 rfl rfl (Nat.le_of_ble_eq_true rfl) ⟨(show (6 + 1 * r9) + 1 ≤ 6 + 1 * (r9 + 1) by omega), (show 8 + (7 + 11) + 40 * ((6 + 1 * r9)) ≤ 40 * (6 + 1 * (r9 + 1)) by omega)⟩ rfl rfl (Nat.le_of_ble_eq_true rfl) (Nat.le_of_ble_eq_true rfl) (fun r9 J_195 hq9 => ?_)
                          obtain ⟨z_195, rfl, hz_195, m_195, w_195, h_195⟩ := hq9
                          have q_195 := RT.tr q_188 w_195
                          have l_195 := w_195.1.1.2
                          have i_195 := w_195.2.2.1
                          refine tz_istore (pc := 198) (L2 := [_, _, _, _, _, _, _]) dX12_term1_198 (by decide) rfl ?_
                          refine tz_iload_n (pc := 200) dX12_term1_200 rfl rfl ?_
                          refine tz_iconst (pc := 201) dX12_term1_201 ?_
                          refine tz_icmp_leF (pc := 202) (tgt := 211) (by decide) dX12_term1_202 (by decide) (by decide) (by decide) ?_
                          refine tz_aload_n (pc := 205) dX12_term1_205 rfl rfl ?_
                          refine tz_bipush (pc := 206) dX12_term1_206 (by decide) ?_
                          refine tz_cV (pc := 208) (m_sign hl n _ _ (by decide) (q_195).2.1 (by decide)) vl_X12_296 dX12_term1_208 o_164 rfl rfl (Nat.le_of_ble_eq_true rfl) ⟨(show 3 + 1 ≤ 6 + 1 * (r9 + 1) by omega), (show 8 + (2 + 11) + 40 * (3) ≤ 40 * (6 + 1 * (r9 + 1)) by omega)⟩ rfl rfl (Nat.le_of_ble_eq_true rfl) (Nat.le_of_ble_eq_true rfl) (fun r9 J_208 hq9 => ?_)
                          obtain ⟨rfl, w_208, b_208⟩ := hq9
                          have q_208 := RT.w q_195 w_208
                          have i_208 := w_208.2.2.1
                          refine tz_iload_n (pc := 211) dX12_term1_211 rfl rfl ?_
                          refine tz_iconst (pc := 212) dX12_term1_212 ?_
                          refine tz_icmp_leF (pc := 213) (tgt := 226) (by decide) dX12_term1_213 (by decide) (by decide) (by decide) ?_
                          refine tz_aload_n (pc := 216) dX12_term1_216 rfl rfl ?_
                          refine tz_iload_n (pc := 217) dX12_term1_217 rfl rfl ?_
                          refine tz_iconst (pc := 218) dX12_term1_218 ?_
                          refine tz_iadd (pc := 219) (v := x + 1) dX12_term1_219 rfl ?_
                          refine tz_cV (pc := 220) (ih _ _ (by omega) s m_195 (q_208).1.1.1 (q_208).2.1 (q_208).2.2.2.2 (((q_208).f 44 rfl).trans h44) (by omega) (by omega)) vl_X12_298 dX12_term1_220 o_164 rfl rfl (Nat.le_of_ble_eq_true rfl) ⟨(show (6 + 1 * r9) + 1 ≤ 6 + 1 * (r9 + 1) by omega), (show 8 + (7 + 11) + 40 * ((6 + 1 * r9)) ≤ 40 * (6 + 1 * (r9 + 1)) by omega)⟩ rfl rfl (Nat.le_of_ble_eq_true rfl) (Nat.le_of_ble_eq_true rfl) (fun r9 J_220 hq9 => ?_)
                          obtain ⟨z_220, rfl, hz_220, m_220, w_220, h_220⟩ := hq9
                          have q_220 := RT.tr q_208 w_220
                          have l_220 := w_220.1.1.2
                          have i_220 := w_220.2.2.1
                          refine tz_goto (pc := 223) (tgt := 227) dX12_term1_223 (by decide) ?_
                          refine tz_istore (pc := 227) (L2 := [_, _, _, _, _, _, _]) dX12_term1_227 (by decide) rfl ?_
                          refine tz_iload_n (pc := 229) dX12_term1_229 rfl rfl ?_
                          refine tz_iconst (pc := 230) dX12_term1_230 ?_
                          refine tz_icmp_leF (pc := 231) (tgt := 240) (by decide) dX12_term1_231 (by decide) (by decide) (by decide) ?_
                          refine tz_aload_n (pc := 234) dX12_term1_234 rfl rfl ?_
                          refine tz_bipush (pc := 235) dX12_term1_235 (by decide) ?_
                          refine tz_cV (pc := 237) (m_sign hl n _ _ (by decide) (q_220).2.1 (by decide)) vl_X12_296 dX12_term1_237 o_164 rfl rfl (Nat.le_of_ble_eq_true rfl) ⟨(show 3 + 1 ≤ 6 + 1 * (r9 + 1) by omega), (show 8 + (2 + 11) + 40 * (3) ≤ 40 * (6 + 1 * (r9 + 1)) by omega)⟩ rfl rfl (Nat.le_of_ble_eq_true rfl) (Nat.le_of_ble_eq_true rfl) (fun r9 J_237 hq9 => ?_)
                          obtain ⟨rfl, w_237, b_237⟩ := hq9
                          have q_237 := RT.w q_220 w_237
                          have i_237 := w_237.2.2.1
                          refine tz_iload_n (pc := 240) dX12_term1_240 rfl rfl ?_
                          refine tz_iconst (pc := 241) dX12_term1_241 ?_
                          refine tz_icmp_leF (pc := 242) (tgt := 255) (by decide) dX12_term1_242 (by decide) (by decide) (by decide) ?_
                          refine tz_aload_n (pc := 245) dX12_term1_245 rfl rfl ?_
                          refine tz_iload_n (pc := 246) dX12_term1_246 rfl rfl ?_
                          refine tz_iconst (pc := 247) dX12_term1_247 ?_
                          refine tz_iadd (pc := 248) (v := x + 1) dX12_term1_248 rfl ?_
                          refine tz_cV (pc := 249) (ih _ _ (by omega) s m_220 (q_237).1.1.1 (q_237).2.1 (q_237).2.2.2.2 (((q_237).f 44 rfl).trans h44) (by omega) (by omega)) vl_X12_298 dX12_term1_249 o_164 rfl rfl (Nat.le_of_ble_eq_true rfl) ⟨(show (6 + 1 * r9) + 1 ≤ 6 + 1 * (r9 + 1) by omega), (show 8 + (7 + 11) + 40 * ((6 + 1 * r9)) ≤ 40 * (6 + 1 * (r9 + 1)) by omega)⟩ rfl rfl (Nat.le_of_ble_eq_true rfl) (Nat.le_of_ble_eq_true rfl) (fun r9 J_249 hq9 => ?_)
                          obtain ⟨z_249, rfl, hz_249, m_249, w_249, h_249⟩ := hq9
                          have q_249 := RT.tr q_237 w_249
                          have l_249 := w_249.1.1.2
                          have i_249 := w_249.2.2.1
                          refine tz_goto (pc := 252) (tgt := 256) dX12_term1_252 (by decide) ?_
                          refine tz_istore (pc := 256) (L2 := [_, _, _, _, _, _, _]) dX12_term1_256 (by decide) rfl ?_
                          refine tz_aload_n (pc := 258) dX12_term1_258 rfl rfl ?_
                          refine tz_bipush (pc := 259) dX12_term1_259 (by decide) ?_
                          refine tz_cV (pc := 261) (m_sign hl n _ _ (by decide) (q_249).2.1 (by decide)) vl_X12_296 dX12_term1_261 o_164 rfl rfl (Nat.le_of_ble_eq_true rfl) ⟨(show 3 + 1 ≤ 6 + 1 * (r9 + 1) by omega), (show 8 + (2 + 11) + 40 * (3) ≤ 40 * (6 + 1 * (r9 + 1)) by omega)⟩ rfl rfl (Nat.le_of_ble_eq_true rfl) (Nat.le_of_ble_eq_true rfl) (fun r9 J_261 hq9 => ?_)
                          obtain ⟨rfl, w_261, b_261⟩ := hq9
                          have q_261 := RT.w q_249 w_261
                          have i_261 := w_261.2.2.1
                          refine tz_aload_n (pc := 264) dX12_term1_264 rfl rfl ?_
                          refine tz_fI (pc := 265) (kz := 43) (v := (J_261 164 43)) dX12_term1_265 fl_X12_273 i_164_43 rfl rfl (fun r_265 => ?_)
                          refine tz_if_ne (pc := 268) (tgt := 285) dX12_term1_268 (by decide) (by omega) (fun h_268 => ?_) (fun h_268 => ?_)
                          · refine tz_iconst (pc := 285) dX12_term1_285 ?_
                            exact tz_iret (pc := 286) (z := 0) dX12_term1_286 rfl (Nat.le_of_ble_eq_true rfl) (Nat.le_of_ble_eq_true rfl) ⟨Nat.le_refl _, Nat.le_add_right _ _⟩ ⟨_, rfl, (by decide), ⟨m_249, q_261, fun q9 => by omega⟩⟩
                          · refine tz_aload_n (pc := 271) dX12_term1_271 rfl rfl ?_
                            refine tz_iload_n (pc := 272) dX12_term1_272 rfl rfl ?_
                            refine tz_iload (pc := 273) dX12_term1_273 rfl ?_
                            refine tz_iload (pc := 275) dX12_term1_275 rfl ?_
                            refine tz_iload (pc := 277) dX12_term1_277 rfl ?_
                            refine tz_cV (pc := 279) (m_tu3 hl n _ _ _ _ _ (by omega) (by omega) (by omega) (by omega) 800 126 10 s m_249 (q_261).1.1.1 (by omega) ⟨by omega, ((congrFun ((q_261).c 170 rfl) _).trans hk9)⟩ (q_261).2.2.2.2 (by omega)) vl_X12_107 dX12_term1_279 o_164 rfl rfl (Nat.le_of_ble_eq_true rfl) ⟨(show 2 + 1 ≤ 6 + 1 * (r9 + 1) by omega), (show 8 + (8 + 11) + 40 * (2) ≤ 40 * (6 + 1 * (r9 + 1)) by omega)⟩ rfl rfl (Nat.le_of_ble_eq_true rfl) (Nat.le_of_ble_eq_true rfl) (fun r9 J_279 hq9 => ?_)
                            obtain ⟨z_279, rfl, hz_279, m_279, g_279, h_279⟩ := hq9
                            have q_279 := RT.t q_261 g_279 (by omega)
                            refine tz_goto (pc := 282) (tgt := 286) dX12_term1_282 (by decide) ?_
                            exact tz_iret (pc := 286) (z := z_279) dX12_term1_286 rfl (Nat.le_of_ble_eq_true rfl) (Nat.le_of_ble_eq_true rfl) ⟨Nat.le_refl _, Nat.le_add_right _ _⟩ ⟨_, rfl, (by omega), ⟨m_279, q_279, fun _ => h_279⟩⟩
                      · refine tz_iconst (pc := 156) dX12_term1_156 ?_
                        exact tz_iret (pc := 157) (z := 0) dX12_term1_157 rfl (Nat.le_of_ble_eq_true rfl) (Nat.le_of_ble_eq_true rfl) ⟨Nat.le_refl _, Nat.le_add_right _ _⟩ ⟨_, rfl, (by decide), ⟨m, q_150, fun q9 => by omega⟩⟩
            · refine tz_aload_n (pc := 48) dX12_term1_48 rfl rfl ?_
              refine tz_iload_n (pc := 49) dX12_term1_49 rfl rfl ?_
              refine tz_bipush (pc := 50) dX12_term1_50 (by decide) ?_
              refine tz_icmp_gt (pc := 52) (tgt := 59) dX12_term1_52 (by decide) (by omega) (by decide) (fun h_52 => ?_) (fun h_52 => ?_)
              · refine tz_iconst (pc := 59) dX12_term1_59 ?_
                refine tz_iconst (pc := 60) dX12_term1_60 ?_
                refine tz_cV (pc := 61) (m_wantsW hl n _ _ _ (by decide) (by decide) (q_31).2.1 (by decide)) vl_X12_276 dX12_term1_61 o_164 rfl rfl (Nat.le_of_ble_eq_true rfl) ⟨(show 0 + 1 ≤ 6 + 1 * (r9 + 1) by omega), (show 8 + (3 + 11) + 40 * (0) ≤ 40 * (6 + 1 * (r9 + 1)) by omega)⟩ rfl rfl (Nat.le_of_ble_eq_true rfl) (Nat.le_of_ble_eq_true rfl) (fun r9 J_61 hq9 => ?_)
                obtain ⟨z_61, rfl, hz_61, w_61, b_61, c_61, d_61⟩ := hq9
                have q_61 := RT.w q_31 w_61
                have i_61 := w_61.2.2.1
                obtain rfl : z_61 = 0 := by rcases b_61 with e9 | e9; exact e9; exact absurd rfl (c_61 e9).2.2
                refine tz_if_neF (pc := 64) (tgt := 69) (by decide) dX12_term1_64 (by decide) (by decide) ?_
                refine tz_iconst (pc := 67) dX12_term1_67 ?_
                exact tz_iret (pc := 68) (z := 0) dX12_term1_68 rfl (Nat.le_of_ble_eq_true rfl) (Nat.le_of_ble_eq_true rfl) ⟨Nat.le_refl _, Nat.le_add_right _ _⟩ ⟨_, rfl, (by decide), ⟨m, q_61, fun q9 => by omega⟩⟩
              · refine tz_iconst (pc := 55) dX12_term1_55 ?_
                refine tz_goto (pc := 56) (tgt := 60) dX12_term1_56 (by decide) ?_
                refine tz_iconst (pc := 60) dX12_term1_60 ?_
                refine tz_cV (pc := 61) (m_wantsW hl n _ _ _ (by decide) (by decide) (q_31).2.1 (by decide)) vl_X12_276 dX12_term1_61 o_164 rfl rfl (Nat.le_of_ble_eq_true rfl) ⟨(show 0 + 1 ≤ 6 + 1 * (r9 + 1) by omega), (show 8 + (3 + 11) + 40 * (0) ≤ 40 * (6 + 1 * (r9 + 1)) by omega)⟩ rfl rfl (Nat.le_of_ble_eq_true rfl) (Nat.le_of_ble_eq_true rfl) (fun r9 J_61 hq9 => ?_)
                obtain ⟨z_61, rfl, hz_61, w_61, b_61, c_61, d_61⟩ := hq9
                have q_61 := RT.w q_31 w_61
                have i_61 := w_61.2.2.1
                have e_61 : z_61 = 1 → J_61 164 43 = 0 := fun q9 => (c_61 q9).2.1
                refine tz_if_ne (pc := 64) (tgt := 69) dX12_term1_64 (by decide) (by omega) (fun h_64 => ?_) (fun h_64 => ?_)
                · refine tz_aload_n (pc := 69) dX12_term1_69 rfl rfl ?_
                  refine tz_cV (pc := 70) (m_goW hl n _ (q_61).2.1) vl_X12_280 dX12_term1_70 o_164 rfl rfl (Nat.le_of_ble_eq_true rfl) ⟨(show 2 + 1 ≤ 6 + 1 * (r9 + 1) by omega), (show 8 + (2 + 11) + 40 * (2) ≤ 40 * (6 + 1 * (r9 + 1)) by omega)⟩ rfl rfl (Nat.le_of_ble_eq_true rfl) (Nat.le_of_ble_eq_true rfl) (fun r9 J_70 hq9 => ?_)
                  obtain ⟨rfl, w_70, b_70⟩ := hq9
                  have q_70 := RT.w q_61 w_70
                  refine tz_aload_n (pc := 73) dX12_term1_73 rfl rfl ?_
                  refine tz_iconst (pc := 74) dX12_term1_74 ?_
                  refine tz_bipush (pc := 75) dX12_term1_75 (by decide) ?_
                  refine tz_cV (pc := 77) (m_number hl n _ _ _ (by decide) (by decide) (q_70).2.1 (by decide)) vl_X12_290 dX12_term1_77 o_164 rfl rfl (Nat.le_of_ble_eq_true rfl) ⟨(show 3 + 1 ≤ 6 + 1 * (r9 + 1) by omega), (show 8 + (4 + 11) + 40 * (3) ≤ 40 * (6 + 1 * (r9 + 1)) by omega)⟩ rfl rfl (Nat.le_of_ble_eq_true rfl) (Nat.le_of_ble_eq_true rfl) (fun r9 J_77 hq9 => ?_)
                  obtain ⟨z_77, rfl, hz_77, w_77, b_77, d_77⟩ := hq9
                  have q_77 := RT.w q_70 w_77
                  have i_77 := w_77.2.2.1
                  refine tz_istore_n (pc := 80) (L2 := [_, _, _, _, _, _, _]) dX12_term1_80 rfl (by decide) rfl ?_
                  refine tz_aload_n (pc := 81) dX12_term1_81 rfl rfl ?_
                  refine tz_fI (pc := 82) (kz := 43) (v := (J_77 164 43)) dX12_term1_82 fl_X12_273 i_164_43 rfl rfl (fun r_82 => ?_)
                  refine tz_if_ne (pc := 85) (tgt := 96) dX12_term1_85 (by decide) (by omega) (fun h_85 => ?_) (fun h_85 => ?_)
                  · refine tz_iconst (pc := 96) dX12_term1_96 ?_
                    exact tz_iret (pc := 97) (z := 0) dX12_term1_97 rfl (Nat.le_of_ble_eq_true rfl) (Nat.le_of_ble_eq_true rfl) ⟨Nat.le_refl _, Nat.le_add_right _ _⟩ ⟨_, rfl, (by decide), ⟨m, q_77, fun q9 => by omega⟩⟩
                  · refine tz_aload_n (pc := 88) dX12_term1_88 rfl rfl ?_
                    refine tz_iload_n (pc := 89) dX12_term1_89 rfl rfl ?_
                    refine tz_cV (pc := 90) (m_varTermU hl n _ _ (by omega) 800 126 10 s m (q_77).1.1.1 (by omega) (q_77).2.2.2.2) vl_X12_180 dX12_term1_90 o_164 rfl rfl (Nat.le_of_ble_eq_true rfl) ⟨(show 3 + 1 ≤ 6 + 1 * (r9 + 1) by omega), (show 8 + (2 + 11) + 40 * (3) ≤ 40 * (6 + 1 * (r9 + 1)) by omega)⟩ rfl rfl (Nat.le_of_ble_eq_true rfl) (Nat.le_of_ble_eq_true rfl) (fun r9 J_90 hq9 => ?_)
                    obtain ⟨z_90, rfl, hz_90, m_90, g_90, h_90⟩ := hq9
                    have q_90 := RT.t q_77 g_90 (by omega)
                    refine tz_goto (pc := 93) (tgt := 97) dX12_term1_93 (by decide) ?_
                    exact tz_iret (pc := 97) (z := z_90) dX12_term1_97 rfl (Nat.le_of_ble_eq_true rfl) (Nat.le_of_ble_eq_true rfl) ⟨Nat.le_refl _, Nat.le_add_right _ _⟩ ⟨_, rfl, (by omega), ⟨m_90, q_90, fun _ => h_90⟩⟩
                · refine tz_iconst (pc := 67) dX12_term1_67 ?_
                  exact tz_iret (pc := 68) (z := 0) dX12_term1_68 rfl (Nat.le_of_ble_eq_true rfl) (Nat.le_of_ble_eq_true rfl) ⟨Nat.le_refl _, Nat.le_add_right _ _⟩ ⟨_, rfl, (by decide), ⟨m, q_61, fun q9 => by omega⟩⟩
          · refine tz_iconst (pc := 37) dX12_term1_37 ?_
            exact tz_iret (pc := 38) (z := 0) dX12_term1_38 rfl (Nat.le_of_ble_eq_true rfl) (Nat.le_of_ble_eq_true rfl) ⟨Nat.le_refl _, Nat.le_add_right _ _⟩ ⟨_, rfl, (by decide), ⟨m, q_31, fun q9 => by omega⟩⟩

theorem m_term1 {l : Launch} {G : tb_G} (hl : l.stackTraces = false) (n : Nat) (J : zJ) (s m : Int) (hM : MS J 800 126 10 s m) (hP : RSP J) (hu : J 164 21 = 0 ∨ 0 < m) (h44 : J 164 44 = s) : tz_Ok l G M_X12_term1 14 0 0 [.ref 164, zi 1] n J (zqi (fun z J' => ∃ m', RT J' J s m m' ∧ (J' 164 43 = 0 → 0 ≤ z ∧ z < m'))) zN := m_term1R hl n 8 J 1 (by decide) s m hM hP hu h44 (by decide) (by decide)
