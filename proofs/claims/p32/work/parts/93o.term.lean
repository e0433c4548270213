section
/-! ===== termOf, exact ===== -/
def nmT (J : zJ) (b A h x y w q : Int) : Prop := J 166 (b + q) = h ∧ (0 < A → J 167 (3 * (b + q) + 0) = x) ∧ (1 < A → J 167 (3 * (b + q) + 1) = y) ∧ (2 < A → J 167 (3 * (b + q) + 2) = w)
def dpS (f : Int → Int) (A x y w : Int) : Int := if A ≤ 0 then 1 else if A ≤ 1 then zmax 1 (f x + 1) else if A ≤ 2 then zmax (zmax 1 (f x + 1)) (f y + 1) else zmax (zmax (zmax 1 (f x + 1)) (f y + 1)) (f w + 1)
def chT (J : zJ) (b r m h a0 a1 a2 dp : Int) : zJ := zup (zup (zup (zup (zup (zup J 166 (b + m) h) 167 (3 * (b + m)) a0) 167 (3 * (b + m) + 1) a1) 167 (3 * (b + m) + 2) a2) 168 (b + m) dp) 165 r (m + 1)
/-- what termOf does to a table that isn't full -/
def tmX (J J' : zJ) (b r m A h x y w z : Int) : Prop := (∃ q, (0 ≤ q ∧ q < m) ∧ nmT J b A h x y w q ∧ z = q ∧ J = J') ∨ ((∀ q, 0 ≤ q → q < m → ¬ nmT J b A h x y w q) ∧ ((dpS (fun t => J 168 (b + t)) A x y w ≤ 6 ∧ m < 400 ∧ z = m ∧ J' = chT (zup J 164 21 0) b r m h (if 0 < A then x else -1) (if 1 < A then y else -1) (if 2 < A then w else -1) (dpS (fun t => J 168 (b + t)) A x y w)) ∨ ((6 < dpS (fun t => J 168 (b + t)) A x y w ∨ m = 400) ∧ z = 0 ∧ J' = zup J 164 21 1)))
set_option maxHeartbeats 4000000 in
set_option maxRecDepth 100000 in
theorem x_tmN {l : Launch} {G : tb_G} (hl : l.stackTraces = false) (n : Nat) (J : zJ) (h : Int) (x : Int) (y : Int) (w : Int) (hr_h : -2147483648 ≤ h ∧ h < 2147483648) (hr_x : -2147483648 ≤ x ∧ x < 2147483648) (hr_y : -2147483648 ≤ y ∧ y < 2147483648) (hr_w : -2147483648 ≤ w ∧ w < 2147483648) (b r d s m : Int) (hM : MS J b r d s m) (hh : -8 ≤ h ∧ h < s) (hk : h < 0) (h21 : J 164 21 = 0) (hg : (0 < (0 : Int) → 0 ≤ x ∧ x < m) ∧ (1 < (0 : Int) → 0 ≤ y ∧ y < m) ∧ (2 < (0 : Int) → 0 ≤ w ∧ w < m)) : tz_Ok l G M_X12_termOf 2 0 0 [.ref 164, zi h, zi x, zi y, zi w] n J (zqi (fun z J' => tmX J J' b r m 0 h x y w z)) zN := by
  refine tz_Ok.of hl (by decide +kernel) rfl (tb_c1 rfl) (Nat.le_of_ble_eq_true rfl) ?_
  show tz_At l G M_X12_termOf (tb_rm 2 0 0) none (tb_ZM G 0 0 (zQ n 0 (zqi (fun z J' => tmX J J' b r m 0 h x y w z))) (zX n 0 zN)) 0 0 n J 0 [some (.ref 164), some (zi h), some (zi x), some (zi y), some (zi w), none, none, none] []
  obtain ⟨hM1, hM2, hM3, hM4, hM5, hM6⟩ := id hM
  have hT := hM.told
  refine tz_aload_n (pc := 0) dX12_termOf_0 rfl rfl ?_
  refine tz_fI (pc := 1) (kz := 21) (v := (J 164 21)) dX12_termOf_1 fl_X12_92 i_164_21 rfl rfl (fun r_1 => ?_)
  refine tz_if_eq (pc := 4) (tgt := 9) dX12_termOf_4 (by decide) (by omega) (fun h_4 => ?_) (fun h_4 => ?_)
  · refine tz_iload_n (pc := 9) dX12_termOf_9 rfl rfl ?_
    refine tz_if_geF (pc := 10) (tgt := 17) (by omega) dX12_termOf_10 (by decide) (by omega) ?_
    refine tz_iconst (pc := 13) dX12_termOf_13 ?_
    refine tz_goto (pc := 14) (tgt := 28) dX12_termOf_14 (by decide) ?_
    refine tz_istore (pc := 28) (L2 := [_, _, _, _, _, _, _, _]) dX12_termOf_28 (by decide) rfl ?_
    refine tz_iconst (pc := 30) dX12_termOf_30 ?_
    refine tz_istore (pc := 31) (L2 := [_, _, _, _, _, _, _, _]) dX12_termOf_31 (by decide) rfl ?_
    have loop33 : ∀ (f9 : Nat) (t : Int), ((m - t).toNat) < f9 → (0 ≤ t ∧ t ≤ m) → (∀ q, 0 ≤ q → q < t → ¬ nmT J b 0 h x y w q) → tz_At l G M_X12_termOf (tb_rm 2 0 0) none (tb_ZM G 0 0 (zQ n 0 (zqi (fun z J' => tmX J J' b r m 0 h x y w z))) (zX n 0 zN)) 0 0 n J 33 [some (.ref 164), some (zi h), some (zi x), some (zi y), some (zi w), some (zi 0), some (zi t), none] [] := by
      intro f9
      induction f9 with
      | zero => intro t hm9; exact absurd hm9 (Nat.not_lt_zero _)
      | succ f9 ih33 =>
        intro t hm33 hq hn
        refine tz_iload (pc := 33) dX12_termOf_33 rfl ?_
        refine tz_aload_n (pc := 35) dX12_termOf_35 rfl rfl ?_
        refine tz_cV (pc := 36) (m_many hl n _ b r d s m hM) vl_X12_96 dX12_termOf_36 o_164 rfl rfl (Nat.le_of_ble_eq_true rfl) ⟨(Nat.le_of_ble_eq_true rfl), (Nat.le_of_ble_eq_true rfl)⟩ rfl rfl (Nat.le_of_ble_eq_true rfl) (Nat.le_of_ble_eq_true rfl) (fun r9 J_36 hq9 => ?_)
        obtain ⟨z_36, rfl, hz_36, rfl, rfl⟩ := hq9
        refine tz_icmp_ge (pc := 39) (tgt := 67) dX12_termOf_39 (by decide) (by omega) (by omega) (fun h_39 => ?_) (fun h_39 => ?_)
        · refine tz_iconst (pc := 67) dX12_termOf_67 ?_
          refine tz_istore (pc := 68) (L2 := [_, _, _, _, _, _, _, _]) dX12_termOf_68 (by decide) rfl ?_
          refine tz_iload (pc := 70) dX12_termOf_70 rfl ?_
          refine tz_if_leT (pc := 72) (tgt := 95) (by decide) dX12_termOf_72 (by decide) (by decide) ?_
          refine tz_iload (pc := 95) dX12_termOf_95 rfl ?_
          refine tz_iconst (pc := 97) dX12_termOf_97 ?_
          refine tz_icmp_leT (pc := 98) (tgt := 121) (by decide) dX12_termOf_98 (by decide) (by decide) (by decide) ?_
          refine tz_iload (pc := 121) dX12_termOf_121 rfl ?_
          refine tz_iconst (pc := 123) dX12_termOf_123 ?_
          refine tz_icmp_leT (pc := 124) (tgt := 148) (by decide) dX12_termOf_124 (by decide) (by decide) (by decide) ?_
          refine tz_aload_n (pc := 148) dX12_termOf_148 rfl rfl ?_
          refine tz_iload (pc := 149) dX12_termOf_149 rfl ?_
          refine tz_bipush (pc := 151) dX12_termOf_151 (by decide) ?_
          refine tz_icmp_gtF (pc := 153) (tgt := 166) (by decide) dX12_termOf_153 (by decide) (by decide) (by decide) ?_
          refine tz_aload_n (pc := 156) dX12_termOf_156 rfl rfl ?_
          refine tz_cV (pc := 157) (m_many hl n _ b r d s m hM) vl_X12_96 dX12_termOf_157 o_164 rfl rfl (Nat.le_of_ble_eq_true rfl) ⟨(Nat.le_of_ble_eq_true rfl), (Nat.le_of_ble_eq_true rfl)⟩ rfl rfl (Nat.le_of_ble_eq_true rfl) (Nat.le_of_ble_eq_true rfl) (fun r9 J_157 hq9 => ?_)
          obtain ⟨z_157, rfl, hz_157, rfl, rfl⟩ := hq9
          refine tz_sipush (pc := 160) dX12_termOf_160 (by decide) ?_
          refine tz_icmp_ne (pc := 163) (tgt := 170) dX12_termOf_163 (by decide) (by omega) (by decide) (fun h_163 => ?_) (fun h_163 => ?_)
          · refine tz_iconst (pc := 170) dX12_termOf_170 ?_
            refine tz_pZ (pc := 171) (kz := 21) dX12_termOf_171 fl_X12_92 i_164_21 rfl rfl (Or.inl rfl) ?_
            refine tz_aload_n (pc := 174) dX12_termOf_174 rfl rfl ?_
            refine tz_fI (pc := 175) (kz := 21) (v := 0) dX12_termOf_175 fl_X12_92 i_164_21 rfl rfl (fun _ => ?_)
            refine tz_if_eqT (pc := 178) (tgt := 183) (by decide) dX12_termOf_178 (by decide) (by decide) ?_
            refine tz_aload_n (pc := 183) dX12_termOf_183 rfl rfl ?_
            refine tz_cV (pc := 184) (m_many hl n _ b r d s m (hM.of ⟨zup_ne (by decide), zup_ne (by decide), zup_ne (by decide)⟩ rfl rfl rfl rfl rfl)) vl_X12_96 dX12_termOf_184 o_164 rfl rfl (Nat.le_of_ble_eq_true rfl) ⟨(Nat.le_of_ble_eq_true rfl), (Nat.le_of_ble_eq_true rfl)⟩ rfl rfl (Nat.le_of_ble_eq_true rfl) (Nat.le_of_ble_eq_true rfl) (fun r9 J_184 hq9 => ?_)
            obtain ⟨z_184, rfl, hz_184, rfl, rfl⟩ := hq9
            refine tz_istore (pc := 187) (L2 := [_, _, _, _, _, _, _, _]) dX12_termOf_187 (by decide) rfl ?_
            refine tz_aload_n (pc := 189) dX12_termOf_189 rfl rfl ?_
            refine tz_fR (pc := 190) dX12_termOf_190 fl_X12_13 r_164_1 ?_
            refine tz_aload_n (pc := 193) dX12_termOf_193 rfl rfl ?_
            refine tz_fI (pc := 194) (kz := 15) (v := b) dX12_termOf_194 fl_X12_71 i_164_15 rfl hM2 (fun r_194 => ?_)
            refine tz_iload (pc := 197) dX12_termOf_197 rfl ?_
            refine tz_iadd (pc := 199) (v := b + m) dX12_termOf_199 rfl ?_
            refine tz_iload_n (pc := 200) dX12_termOf_200 rfl rfl ?_
            refine tz_aS (pc := 201) (z := (b + m)) dX12_termOf_201 a_166 rfl (by omega) (by omega) ?_
            refine tz_aload_n (pc := 202) dX12_termOf_202 rfl rfl ?_
            refine tz_fR (pc := 203) dX12_termOf_203 fl_X12_16 r_164_2 ?_
            refine tz_iconst (pc := 206) dX12_termOf_206 ?_
            refine tz_aload_n (pc := 207) dX12_termOf_207 rfl rfl ?_
            refine tz_fI (pc := 208) (kz := 15) (v := b) dX12_termOf_208 fl_X12_71 i_164_15 rfl hM2 (fun r_208 => ?_)
            refine tz_iload (pc := 211) dX12_termOf_211 rfl ?_
            refine tz_iadd (pc := 213) (v := b + m) dX12_termOf_213 rfl ?_
            refine tz_imul (pc := 214) (v := 3 * (b + m)) dX12_termOf_214 rfl ?_
            refine tz_iload (pc := 215) dX12_termOf_215 rfl ?_
            refine tz_if_leT (pc := 217) (tgt := 224) (by decide) dX12_termOf_217 (by decide) (by decide) ?_
            refine tz_iconst (pc := 224) dX12_termOf_224 ?_
            refine tz_aS (pc := 225) (z := (3 * (b + m))) dX12_termOf_225 a_167 rfl (by omega) (by decide) ?_
            refine tz_aload_n (pc := 226) dX12_termOf_226 rfl rfl ?_
            refine tz_fR (pc := 227) dX12_termOf_227 fl_X12_16 r_164_2 ?_
            refine tz_iconst (pc := 230) dX12_termOf_230 ?_
            refine tz_aload_n (pc := 231) dX12_termOf_231 rfl rfl ?_
            refine tz_fI (pc := 232) (kz := 15) (v := b) dX12_termOf_232 fl_X12_71 i_164_15 rfl hM2 (fun r_232 => ?_)
            refine tz_iload (pc := 235) dX12_termOf_235 rfl ?_
            refine tz_iadd (pc := 237) (v := b + m) dX12_termOf_237 rfl ?_
            refine tz_imul (pc := 238) (v := 3 * (b + m)) dX12_termOf_238 rfl ?_
            refine tz_iconst (pc := 239) dX12_termOf_239 ?_
            refine tz_iadd (pc := 240) (v := (3 * (b + m)) + 1) dX12_termOf_240 rfl ?_
            refine tz_iload (pc := 241) dX12_termOf_241 rfl ?_
            refine tz_iconst (pc := 243) dX12_termOf_243 ?_
            refine tz_icmp_leT (pc := 244) (tgt := 251) (by decide) dX12_termOf_244 (by decide) (by decide) (by decide) ?_
            refine tz_iconst (pc := 251) dX12_termOf_251 ?_
            refine tz_aS (pc := 252) (z := ((3 * (b + m)) + 1)) dX12_termOf_252 a_167 rfl (by omega) (by decide) ?_
            refine tz_aload_n (pc := 253) dX12_termOf_253 rfl rfl ?_
            refine tz_fR (pc := 254) dX12_termOf_254 fl_X12_16 r_164_2 ?_
            refine tz_iconst (pc := 257) dX12_termOf_257 ?_
            refine tz_aload_n (pc := 258) dX12_termOf_258 rfl rfl ?_
            refine tz_fI (pc := 259) (kz := 15) (v := b) dX12_termOf_259 fl_X12_71 i_164_15 rfl hM2 (fun r_259 => ?_)
            refine tz_iload (pc := 262) dX12_termOf_262 rfl ?_
            refine tz_iadd (pc := 264) (v := b + m) dX12_termOf_264 rfl ?_
            refine tz_imul (pc := 265) (v := 3 * (b + m)) dX12_termOf_265 rfl ?_
            refine tz_iconst (pc := 266) dX12_termOf_266 ?_
            refine tz_iadd (pc := 267) (v := (3 * (b + m)) + 2) dX12_termOf_267 rfl ?_
            refine tz_iload (pc := 268) dX12_termOf_268 rfl ?_
            refine tz_iconst (pc := 270) dX12_termOf_270 ?_
            refine tz_icmp_leT (pc := 271) (tgt := 279) (by decide) dX12_termOf_271 (by decide) (by decide) (by decide) ?_
            refine tz_iconst (pc := 279) dX12_termOf_279 ?_
            refine tz_aS (pc := 280) (z := ((3 * (b + m)) + 2)) dX12_termOf_280 a_167 rfl (by omega) (by decide) ?_
            refine tz_aload_n (pc := 281) dX12_termOf_281 rfl rfl ?_
            refine tz_fR (pc := 282) dX12_termOf_282 fl_X12_19 r_164_3 ?_
            refine tz_aload_n (pc := 285) dX12_termOf_285 rfl rfl ?_
            refine tz_fI (pc := 286) (kz := 15) (v := b) dX12_termOf_286 fl_X12_71 i_164_15 rfl hM2 (fun r_286 => ?_)
            refine tz_iload (pc := 289) dX12_termOf_289 rfl ?_
            refine tz_iadd (pc := 291) (v := b + m) dX12_termOf_291 rfl ?_
            refine tz_iload (pc := 292) dX12_termOf_292 rfl ?_
            refine tz_aS (pc := 294) (z := (b + m)) dX12_termOf_294 a_168 rfl (by omega) (by decide) ?_
            refine tz_aload_n (pc := 295) dX12_termOf_295 rfl rfl ?_
            refine tz_fR (pc := 296) dX12_termOf_296 fl_X12_9 r_164_0 ?_
            refine tz_aload_n (pc := 299) dX12_termOf_299 rfl rfl ?_
            refine tz_fI (pc := 300) (kz := 16) (v := r) dX12_termOf_300 fl_X12_85 i_164_16 rfl hM3 (fun r_300 => ?_)
            refine tz_iconst (pc := 303) dX12_termOf_303 ?_
            refine tz_iadd (pc := 304) (v := r) dX12_termOf_304 (Int.add_zero _) ?_
            refine tz_dup2 (pc := 305) dX12_termOf_305 rfl rfl ?_
            refine tz_aL (pc := 306) (z := r) (v := m) dX12_termOf_306 a_165 rfl (by omega) hM5 (fun r_306 => ?_)
            refine tz_iconst (pc := 307) dX12_termOf_307 ?_
            refine tz_iadd (pc := 308) (v := m + 1) dX12_termOf_308 rfl ?_
            refine tz_aS (pc := 309) (z := r) dX12_termOf_309 a_165 rfl (by omega) (by omega) ?_
            refine tz_iload (pc := 310) dX12_termOf_310 rfl ?_
            exact tz_iret (pc := 312) (z := m) dX12_termOf_312 rfl (Nat.le_of_ble_eq_true rfl) (Nat.le_of_ble_eq_true rfl) ⟨Nat.le_refl _, Nat.le_add_right _ _⟩ ⟨_, rfl, (by omega), (by have hd9 : dpS (fun t => J 168 (b + t)) 0 x y w = 1 := (by unfold dpS; rfl); exact Or.inr ⟨fun q a c => hn q a (by omega), Or.inl ⟨by rw [hd9]; omega, by omega, rfl, by rw [hd9]; rfl⟩⟩)⟩
          · refine tz_iconst (pc := 166) dX12_termOf_166 ?_
            refine tz_goto (pc := 167) (tgt := 171) dX12_termOf_167 (by decide) ?_
            refine tz_pZ (pc := 171) (kz := 21) dX12_termOf_171 fl_X12_92 i_164_21 rfl rfl (Or.inr rfl) ?_
            refine tz_aload_n (pc := 174) dX12_termOf_174 rfl rfl ?_
            refine tz_fI (pc := 175) (kz := 21) (v := 1) dX12_termOf_175 fl_X12_92 i_164_21 rfl rfl (fun _ => ?_)
            refine tz_if_eqF (pc := 178) (tgt := 183) (by decide) dX12_termOf_178 (by decide) (by decide) ?_
            refine tz_iconst (pc := 181) dX12_termOf_181 ?_
            exact tz_iret (pc := 182) (z := 0) dX12_termOf_182 rfl (Nat.le_of_ble_eq_true rfl) (Nat.le_of_ble_eq_true rfl) ⟨Nat.le_refl _, Nat.le_add_right _ _⟩ ⟨_, rfl, (by decide), (by have hd9 : dpS (fun t => J 168 (b + t)) 0 x y w = 1 := (by unfold dpS; rfl); exact Or.inr ⟨fun q a c => hn q a (by omega), Or.inr ⟨by rw [hd9]; omega, rfl, rfl⟩⟩)⟩
        · refine tz_aload_n (pc := 42) dX12_termOf_42 rfl rfl ?_
          refine tz_iload (pc := 43) dX12_termOf_43 rfl ?_
          refine tz_iload_n (pc := 45) dX12_termOf_45 rfl rfl ?_
          refine tz_iload (pc := 46) dX12_termOf_46 rfl ?_
          refine tz_iload_n (pc := 48) dX12_termOf_48 rfl rfl ?_
          refine tz_iload_n (pc := 49) dX12_termOf_49 rfl rfl ?_
          refine tz_iload (pc := 50) dX12_termOf_50 rfl ?_
          refine tz_cV (pc := 52) (m_isThat hl n _ _ _ _ _ _ _ (by omega) (by omega) (by decide) (by omega) (by omega) (by omega) b r d s m hM (by omega)) vl_X12_100 dX12_termOf_52 o_164 rfl rfl (Nat.le_of_ble_eq_true rfl) ⟨(Nat.le_of_ble_eq_true rfl), (Nat.le_of_ble_eq_true rfl)⟩ rfl rfl (Nat.le_of_ble_eq_true rfl) (Nat.le_of_ble_eq_true rfl) (fun r9 J_52 hq9 => ?_)
          obtain ⟨zi9, rfl, hz_52, rfl, hi1, hi2⟩ := hq9
          refine tz_if_eq (pc := 55) (tgt := 61) dX12_termOf_55 (by decide) (by omega) (fun h_55 => ?_) (fun h_55 => ?_)
          · refine tz_iinc (pc := 61) (z := t + 1) (L2 := [_, _, _, _, _, _, _, _]) dX12_termOf_61 rfl (by omega) rfl ?_
            refine tz_goto (pc := 64) (tgt := 33) dX12_termOf_64 (by decide) ?_
            exact ih33 (t + 1) (by omega) (by omega) (fun q a c => (Decidable.em (q = t)).elim (fun e => by rw [e]; exact fun e9 => by have := hi2.mpr e9; omega) (fun e => hn q a (by omega)))
          · refine tz_iload (pc := 58) dX12_termOf_58 rfl ?_
            exact tz_iret (pc := 60) (z := t) dX12_termOf_60 rfl (Nat.le_of_ble_eq_true rfl) (Nat.le_of_ble_eq_true rfl) ⟨Nat.le_refl _, Nat.le_add_right _ _⟩ ⟨_, rfl, (by omega), Or.inl ⟨t, by omega, hi2.mp (by omega), rfl, rfl⟩⟩
    exact loop33 _ 0 (Nat.lt_succ_self _) (by omega) (fun q a c => by omega)
  · refine tz_iconst (pc := 7) dX12_termOf_7 ?_
    exact tz_iret (pc := 8) (z := 0) dX12_termOf_8 rfl (Nat.le_of_ble_eq_true rfl) (Nat.le_of_ble_eq_true rfl) ⟨Nat.le_refl _, Nat.le_add_right _ _⟩ ⟨_, rfl, (by decide), (absurd h21 (by omega))⟩

set_option maxHeartbeats 4000000 in
set_option maxRecDepth 100000 in
theorem x_tm0 {l : Launch} {G : tb_G} (hl : l.stackTraces = false) (n : Nat) (J : zJ) (h : Int) (x : Int) (y : Int) (w : Int) (hr_h : -2147483648 ≤ h ∧ h < 2147483648) (hr_x : -2147483648 ≤ x ∧ x < 2147483648) (hr_y : -2147483648 ≤ y ∧ y < 2147483648) (hr_w : -2147483648 ≤ w ∧ w < 2147483648) (b r d s m : Int) (hM : MS J b r d s m) (hh : -8 ≤ h ∧ h < s) (hk : 0 ≤ h ∧ J 170 (d + h) = 0) (h21 : J 164 21 = 0) (hg : (0 < (0 : Int) → 0 ≤ x ∧ x < m) ∧ (1 < (0 : Int) → 0 ≤ y ∧ y < m) ∧ (2 < (0 : Int) → 0 ≤ w ∧ w < m)) : tz_Ok l G M_X12_termOf 2 0 0 [.ref 164, zi h, zi x, zi y, zi w] n J (zqi (fun z J' => tmX J J' b r m 0 h x y w z)) zN := by
  refine tz_Ok.of hl (by decide +kernel) rfl (tb_c1 rfl) (Nat.le_of_ble_eq_true rfl) ?_
  show tz_At l G M_X12_termOf (tb_rm 2 0 0) none (tb_ZM G 0 0 (zQ n 0 (zqi (fun z J' => tmX J J' b r m 0 h x y w z))) (zX n 0 zN)) 0 0 n J 0 [some (.ref 164), some (zi h), some (zi x), some (zi y), some (zi w), none, none, none] []
  obtain ⟨hM1, hM2, hM3, hM4, hM5, hM6⟩ := id hM
  have hT := hM.told
  refine tz_aload_n (pc := 0) dX12_termOf_0 rfl rfl ?_
  refine tz_fI (pc := 1) (kz := 21) (v := (J 164 21)) dX12_termOf_1 fl_X12_92 i_164_21 rfl rfl (fun r_1 => ?_)
  refine tz_if_eq (pc := 4) (tgt := 9) dX12_termOf_4 (by decide) (by omega) (fun h_4 => ?_) (fun h_4 => ?_)
  · refine tz_iload_n (pc := 9) dX12_termOf_9 rfl rfl ?_
    refine tz_if_geT (pc := 10) (tgt := 17) (by omega) dX12_termOf_10 (by decide) (by omega) ?_
    refine tz_aload_n (pc := 17) dX12_termOf_17 rfl rfl ?_
    refine tz_fR (pc := 18) dX12_termOf_18 fl_X12_25 r_164_5 ?_
    refine tz_aload_n (pc := 21) dX12_termOf_21 rfl rfl ?_
    refine tz_fI (pc := 22) (kz := 17) (v := d) dX12_termOf_22 fl_X12_82 i_164_17 rfl hM4 (fun r_22 => ?_)
    refine tz_iload_n (pc := 25) dX12_termOf_25 rfl rfl ?_
    refine tz_iadd (pc := 26) (v := d + h) dX12_termOf_26 rfl ?_
    refine tz_aL (pc := 27) (z := (d + h)) (v := 0) dX12_termOf_27 a_170 rfl (by omega) hk.2 (fun _ => ?_)
    refine tz_istore (pc := 28) (L2 := [_, _, _, _, _, _, _, _]) dX12_termOf_28 (by decide) rfl ?_
    refine tz_iconst (pc := 30) dX12_termOf_30 ?_
    refine tz_istore (pc := 31) (L2 := [_, _, _, _, _, _, _, _]) dX12_termOf_31 (by decide) rfl ?_
    have loop33 : ∀ (f9 : Nat) (t : Int), ((m - t).toNat) < f9 → (0 ≤ t ∧ t ≤ m) → (∀ q, 0 ≤ q → q < t → ¬ nmT J b 0 h x y w q) → tz_At l G M_X12_termOf (tb_rm 2 0 0) none (tb_ZM G 0 0 (zQ n 0 (zqi (fun z J' => tmX J J' b r m 0 h x y w z))) (zX n 0 zN)) 0 0 n J 33 [some (.ref 164), some (zi h), some (zi x), some (zi y), some (zi w), some (zi 0), some (zi t), none] [] := by
      intro f9
      induction f9 with
      | zero => intro t hm9; exact absurd hm9 (Nat.not_lt_zero _)
      | succ f9 ih33 =>
        intro t hm33 hq hn
        refine tz_iload (pc := 33) dX12_termOf_33 rfl ?_
        refine tz_aload_n (pc := 35) dX12_termOf_35 rfl rfl ?_
        refine tz_cV (pc := 36) (m_many hl n _ b r d s m hM) vl_X12_96 dX12_termOf_36 o_164 rfl rfl (Nat.le_of_ble_eq_true rfl) ⟨(Nat.le_of_ble_eq_true rfl), (Nat.le_of_ble_eq_true rfl)⟩ rfl rfl (Nat.le_of_ble_eq_true rfl) (Nat.le_of_ble_eq_true rfl) (fun r9 J_36 hq9 => ?_)
        obtain ⟨z_36, rfl, hz_36, rfl, rfl⟩ := hq9
        refine tz_icmp_ge (pc := 39) (tgt := 67) dX12_termOf_39 (by decide) (by omega) (by omega) (fun h_39 => ?_) (fun h_39 => ?_)
        · refine tz_iconst (pc := 67) dX12_termOf_67 ?_
          refine tz_istore (pc := 68) (L2 := [_, _, _, _, _, _, _, _]) dX12_termOf_68 (by decide) rfl ?_
          refine tz_iload (pc := 70) dX12_termOf_70 rfl ?_
          refine tz_if_leT (pc := 72) (tgt := 95) (by decide) dX12_termOf_72 (by decide) (by decide) ?_
          refine tz_iload (pc := 95) dX12_termOf_95 rfl ?_
          refine tz_iconst (pc := 97) dX12_termOf_97 ?_
          refine tz_icmp_leT (pc := 98) (tgt := 121) (by decide) dX12_termOf_98 (by decide) (by decide) (by decide) ?_
          refine tz_iload (pc := 121) dX12_termOf_121 rfl ?_
          refine tz_iconst (pc := 123) dX12_termOf_123 ?_
          refine tz_icmp_leT (pc := 124) (tgt := 148) (by decide) dX12_termOf_124 (by decide) (by decide) (by decide) ?_
          refine tz_aload_n (pc := 148) dX12_termOf_148 rfl rfl ?_
          refine tz_iload (pc := 149) dX12_termOf_149 rfl ?_
          refine tz_bipush (pc := 151) dX12_termOf_151 (by decide) ?_
          refine tz_icmp_gtF (pc := 153) (tgt := 166) (by decide) dX12_termOf_153 (by decide) (by decide) (by decide) ?_
          refine tz_aload_n (pc := 156) dX12_termOf_156 rfl rfl ?_
          refine tz_cV (pc := 157) (m_many hl n _ b r d s m hM) vl_X12_96 dX12_termOf_157 o_164 rfl rfl (Nat.le_of_ble_eq_true rfl) ⟨(Nat.le_of_ble_eq_true rfl), (Nat.le_of_ble_eq_true rfl)⟩ rfl rfl (Nat.le_of_ble_eq_true rfl) (Nat.le_of_ble_eq_true rfl) (fun r9 J_157 hq9 => ?_)
          obtain ⟨z_157, rfl, hz_157, rfl, rfl⟩ := hq9
          refine tz_sipush (pc := 160) dX12_termOf_160 (by decide) ?_
          refine tz_icmp_ne (pc := 163) (tgt := 170) dX12_termOf_163 (by decide) (by omega) (by decide) (fun h_163 => ?_) (fun h_163 => ?_)
          · refine tz_iconst (pc := 170) dX12_termOf_170 ?_
            refine tz_pZ (pc := 171) (kz := 21) dX12_termOf_171 fl_X12_92 i_164_21 rfl rfl (Or.inl rfl) ?_
            refine tz_aload_n (pc := 174) dX12_termOf_174 rfl rfl ?_
            refine tz_fI (pc := 175) (kz := 21) (v := 0) dX12_termOf_175 fl_X12_92 i_164_21 rfl rfl (fun _ => ?_)
            refine tz_if_eqT (pc := 178) (tgt := 183) (by decide) dX12_termOf_178 (by decide) (by decide) ?_
            refine tz_aload_n (pc := 183) dX12_termOf_183 rfl rfl ?_
            refine tz_cV (pc := 184) (m_many hl n _ b r d s m (hM.of ⟨zup_ne (by decide), zup_ne (by decide), zup_ne (by decide)⟩ rfl rfl rfl rfl rfl)) vl_X12_96 dX12_termOf_184 o_164 rfl rfl (Nat.le_of_ble_eq_true rfl) ⟨(Nat.le_of_ble_eq_true rfl), (Nat.le_of_ble_eq_true rfl)⟩ rfl rfl (Nat.le_of_ble_eq_true rfl) (Nat.le_of_ble_eq_true rfl) (fun r9 J_184 hq9 => ?_)
            obtain ⟨z_184, rfl, hz_184, rfl, rfl⟩ := hq9
            refine tz_istore (pc := 187) (L2 := [_, _, _, _, _, _, _, _]) dX12_termOf_187 (by decide) rfl ?_
            refine tz_aload_n (pc := 189) dX12_termOf_189 rfl rfl ?_
            refine tz_fR (pc := 190) dX12_termOf_190 fl_X12_13 r_164_1 ?_
            refine tz_aload_n (pc := 193) dX12_termOf_193 rfl rfl ?_
            refine tz_fI (pc := 194) (kz := 15) (v := b) dX12_termOf_194 fl_X12_71 i_164_15 rfl hM2 (fun r_194 => ?_)
            refine tz_iload (pc := 197) dX12_termOf_197 rfl ?_
            refine tz_iadd (pc := 199) (v := b + m) dX12_termOf_199 rfl ?_
            refine tz_iload_n (pc := 200) dX12_termOf_200 rfl rfl ?_
            refine tz_aS (pc := 201) (z := (b + m)) dX12_termOf_201 a_166 rfl (by omega) (by omega) ?_
            refine tz_aload_n (pc := 202) dX12_termOf_202 rfl rfl ?_
            refine tz_fR (pc := 203) dX12_termOf_203 fl_X12_16 r_164_2 ?_
            refine tz_iconst (pc := 206) dX12_termOf_206 ?_
            refine tz_aload_n (pc := 207) dX12_termOf_207 rfl rfl ?_
            refine tz_fI (pc := 208) (kz := 15) (v := b) dX12_termOf_208 fl_X12_71 i_164_15 rfl hM2 (fun r_208 => ?_)
            refine tz_iload (pc := 211) dX12_termOf_211 rfl ?_
            refine tz_iadd (pc := 213) (v := b + m) dX12_termOf_213 rfl ?_
            refine tz_imul (pc := 214) (v := 3 * (b + m)) dX12_termOf_214 rfl ?_
            refine tz_iload (pc := 215) dX12_termOf_215 rfl ?_
            refine tz_if_leT (pc := 217) (tgt := 224) (by decide) dX12_termOf_217 (by decide) (by decide) ?_
            refine tz_iconst (pc := 224) dX12_termOf_224 ?_
            refine tz_aS (pc := 225) (z := (3 * (b + m))) dX12_termOf_225 a_167 rfl (by omega) (by decide) ?_
            refine tz_aload_n (pc := 226) dX12_termOf_226 rfl rfl ?_
            refine tz_fR (pc := 227) dX12_termOf_227 fl_X12_16 r_164_2 ?_
            refine tz_iconst (pc := 230) dX12_termOf_230 ?_
            refine tz_aload_n (pc := 231) dX12_termOf_231 rfl rfl ?_
            refine tz_fI (pc := 232) (kz := 15) (v := b) dX12_termOf_232 fl_X12_71 i_164_15 rfl hM2 (fun r_232 => ?_)
            refine tz_iload (pc := 235) dX12_termOf_235 rfl ?_
            refine tz_iadd (pc := 237) (v := b + m) dX12_termOf_237 rfl ?_
            refine tz_imul (pc := 238) (v := 3 * (b + m)) dX12_termOf_238 rfl ?_
            refine tz_iconst (pc := 239) dX12_termOf_239 ?_
            refine tz_iadd (pc := 240) (v := (3 * (b + m)) + 1) dX12_termOf_240 rfl ?_
            refine tz_iload (pc := 241) dX12_termOf_241 rfl ?_
            refine tz_iconst (pc := 243) dX12_termOf_243 ?_
            refine tz_icmp_leT (pc := 244) (tgt := 251) (by decide) dX12_termOf_244 (by decide) (by decide) (by decide) ?_
            refine tz_iconst (pc := 251) dX12_termOf_251 ?_
            refine tz_aS (pc := 252) (z := ((3 * (b + m)) + 1)) dX12_termOf_252 a_167 rfl (by omega) (by decide) ?_
            refine tz_aload_n (pc := 253) dX12_termOf_253 rfl rfl ?_
            refine tz_fR (pc := 254) dX12_termOf_254 fl_X12_16 r_164_2 ?_
            refine tz_iconst (pc := 257) dX12_termOf_257 ?_
            refine tz_aload_n (pc := 258) dX12_termOf_258 rfl rfl ?_
            refine tz_fI (pc := 259) (kz := 15) (v := b) dX12_termOf_259 fl_X12_71 i_164_15 rfl hM2 (fun r_259 => ?_)
            refine tz_iload (pc := 262) dX12_termOf_262 rfl ?_
            refine tz_iadd (pc := 264) (v := b + m) dX12_termOf_264 rfl ?_
            refine tz_imul (pc := 265) (v := 3 * (b + m)) dX12_termOf_265 rfl ?_
            refine tz_iconst (pc := 266) dX12_termOf_266 ?_
            refine tz_iadd (pc := 267) (v := (3 * (b + m)) + 2) dX12_termOf_267 rfl ?_
            refine tz_iload (pc := 268) dX12_termOf_268 rfl ?_
            refine tz_iconst (pc := 270) dX12_termOf_270 ?_
            refine tz_icmp_leT (pc := 271) (tgt := 279) (by decide) dX12_termOf_271 (by decide) (by decide) (by decide) ?_
            refine tz_iconst (pc := 279) dX12_termOf_279 ?_
            refine tz_aS (pc := 280) (z := ((3 * (b + m)) + 2)) dX12_termOf_280 a_167 rfl (by omega) (by decide) ?_
            refine tz_aload_n (pc := 281) dX12_termOf_281 rfl rfl ?_
            refine tz_fR (pc := 282) dX12_termOf_282 fl_X12_19 r_164_3 ?_
            refine tz_aload_n (pc := 285) dX12_termOf_285 rfl rfl ?_
            refine tz_fI (pc := 286) (kz := 15) (v := b) dX12_termOf_286 fl_X12_71 i_164_15 rfl hM2 (fun r_286 => ?_)
            refine tz_iload (pc := 289) dX12_termOf_289 rfl ?_
            refine tz_iadd (pc := 291) (v := b + m) dX12_termOf_291 rfl ?_
            refine tz_iload (pc := 292) dX12_termOf_292 rfl ?_
            refine tz_aS (pc := 294) (z := (b + m)) dX12_termOf_294 a_168 rfl (by omega) (by decide) ?_
            refine tz_aload_n (pc := 295) dX12_termOf_295 rfl rfl ?_
            refine tz_fR (pc := 296) dX12_termOf_296 fl_X12_9 r_164_0 ?_
            refine tz_aload_n (pc := 299) dX12_termOf_299 rfl rfl ?_
            refine tz_fI (pc := 300) (kz := 16) (v := r) dX12_termOf_300 fl_X12_85 i_164_16 rfl hM3 (fun r_300 => ?_)
            refine tz_iconst (pc := 303) dX12_termOf_303 ?_
            refine tz_iadd (pc := 304) (v := r) dX12_termOf_304 (Int.add_zero _) ?_
            refine tz_dup2 (pc := 305) dX12_termOf_305 rfl rfl ?_
            refine tz_aL (pc := 306) (z := r) (v := m) dX12_termOf_306 a_165 rfl (by omega) hM5 (fun r_306 => ?_)
            refine tz_iconst (pc := 307) dX12_termOf_307 ?_
            refine tz_iadd (pc := 308) (v := m + 1) dX12_termOf_308 rfl ?_
            refine tz_aS (pc := 309) (z := r) dX12_termOf_309 a_165 rfl (by omega) (by omega) ?_
            refine tz_iload (pc := 310) dX12_termOf_310 rfl ?_
            exact tz_iret (pc := 312) (z := m) dX12_termOf_312 rfl (Nat.le_of_ble_eq_true rfl) (Nat.le_of_ble_eq_true rfl) ⟨Nat.le_refl _, Nat.le_add_right _ _⟩ ⟨_, rfl, (by omega), (by have hd9 : dpS (fun t => J 168 (b + t)) 0 x y w = 1 := (by unfold dpS; rfl); exact Or.inr ⟨fun q a c => hn q a (by omega), Or.inl ⟨by rw [hd9]; omega, by omega, rfl, by rw [hd9]; rfl⟩⟩)⟩
          · refine tz_iconst (pc := 166) dX12_termOf_166 ?_
            refine tz_goto (pc := 167) (tgt := 171) dX12_termOf_167 (by decide) ?_
            refine tz_pZ (pc := 171) (kz := 21) dX12_termOf_171 fl_X12_92 i_164_21 rfl rfl (Or.inr rfl) ?_
            refine tz_aload_n (pc := 174) dX12_termOf_174 rfl rfl ?_
            refine tz_fI (pc := 175) (kz := 21) (v := 1) dX12_termOf_175 fl_X12_92 i_164_21 rfl rfl (fun _ => ?_)
            refine tz_if_eqF (pc := 178) (tgt := 183) (by decide) dX12_termOf_178 (by decide) (by decide) ?_
            refine tz_iconst (pc := 181) dX12_termOf_181 ?_
            exact tz_iret (pc := 182) (z := 0) dX12_termOf_182 rfl (Nat.le_of_ble_eq_true rfl) (Nat.le_of_ble_eq_true rfl) ⟨Nat.le_refl _, Nat.le_add_right _ _⟩ ⟨_, rfl, (by decide), (by have hd9 : dpS (fun t => J 168 (b + t)) 0 x y w = 1 := (by unfold dpS; rfl); exact Or.inr ⟨fun q a c => hn q a (by omega), Or.inr ⟨by rw [hd9]; omega, rfl, rfl⟩⟩)⟩
        · refine tz_aload_n (pc := 42) dX12_termOf_42 rfl rfl ?_
          refine tz_iload (pc := 43) dX12_termOf_43 rfl ?_
          refine tz_iload_n (pc := 45) dX12_termOf_45 rfl rfl ?_
          refine tz_iload (pc := 46) dX12_termOf_46 rfl ?_
          refine tz_iload_n (pc := 48) dX12_termOf_48 rfl rfl ?_
          refine tz_iload_n (pc := 49) dX12_termOf_49 rfl rfl ?_
          refine tz_iload (pc := 50) dX12_termOf_50 rfl ?_
          refine tz_cV (pc := 52) (m_isThat hl n _ _ _ _ _ _ _ (by omega) (by omega) (by decide) (by omega) (by omega) (by omega) b r d s m hM (by omega)) vl_X12_100 dX12_termOf_52 o_164 rfl rfl (Nat.le_of_ble_eq_true rfl) ⟨(Nat.le_of_ble_eq_true rfl), (Nat.le_of_ble_eq_true rfl)⟩ rfl rfl (Nat.le_of_ble_eq_true rfl) (Nat.le_of_ble_eq_true rfl) (fun r9 J_52 hq9 => ?_)
          obtain ⟨zi9, rfl, hz_52, rfl, hi1, hi2⟩ := hq9
          refine tz_if_eq (pc := 55) (tgt := 61) dX12_termOf_55 (by decide) (by omega) (fun h_55 => ?_) (fun h_55 => ?_)
          · refine tz_iinc (pc := 61) (z := t + 1) (L2 := [_, _, _, _, _, _, _, _]) dX12_termOf_61 rfl (by omega) rfl ?_
            refine tz_goto (pc := 64) (tgt := 33) dX12_termOf_64 (by decide) ?_
            exact ih33 (t + 1) (by omega) (by omega) (fun q a c => (Decidable.em (q = t)).elim (fun e => by rw [e]; exact fun e9 => by have := hi2.mpr e9; omega) (fun e => hn q a (by omega)))
          · refine tz_iload (pc := 58) dX12_termOf_58 rfl ?_
            exact tz_iret (pc := 60) (z := t) dX12_termOf_60 rfl (Nat.le_of_ble_eq_true rfl) (Nat.le_of_ble_eq_true rfl) ⟨Nat.le_refl _, Nat.le_add_right _ _⟩ ⟨_, rfl, (by omega), Or.inl ⟨t, by omega, hi2.mp (by omega), rfl, rfl⟩⟩
    exact loop33 _ 0 (Nat.lt_succ_self _) (by omega) (fun q a c => by omega)
  · refine tz_iconst (pc := 7) dX12_termOf_7 ?_
    exact tz_iret (pc := 8) (z := 0) dX12_termOf_8 rfl (Nat.le_of_ble_eq_true rfl) (Nat.le_of_ble_eq_true rfl) ⟨Nat.le_refl _, Nat.le_add_right _ _⟩ ⟨_, rfl, (by decide), (absurd h21 (by omega))⟩

set_option maxHeartbeats 4000000 in
set_option maxRecDepth 100000 in
theorem x_tm1 {l : Launch} {G : tb_G} (hl : l.stackTraces = false) (n : Nat) (J : zJ) (h : Int) (x : Int) (y : Int) (w : Int) (hr_h : -2147483648 ≤ h ∧ h < 2147483648) (hr_x : -2147483648 ≤ x ∧ x < 2147483648) (hr_y : -2147483648 ≤ y ∧ y < 2147483648) (hr_w : -2147483648 ≤ w ∧ w < 2147483648) (b r d s m : Int) (hM : MS J b r d s m) (hh : -8 ≤ h ∧ h < s) (hk : 0 ≤ h ∧ J 170 (d + h) = 1) (h21 : J 164 21 = 0) (hg : (0 < (1 : Int) → 0 ≤ x ∧ x < m) ∧ (1 < (1 : Int) → 0 ≤ y ∧ y < m) ∧ (2 < (1 : Int) → 0 ≤ w ∧ w < m)) : tz_Ok l G M_X12_termOf 2 0 0 [.ref 164, zi h, zi x, zi y, zi w] n J (zqi (fun z J' => tmX J J' b r m 1 h x y w z)) zN := by
  refine tz_Ok.of hl (by decide +kernel) rfl (tb_c1 rfl) (Nat.le_of_ble_eq_true rfl) ?_
  show tz_At l G M_X12_termOf (tb_rm 2 0 0) none (tb_ZM G 0 0 (zQ n 0 (zqi (fun z J' => tmX J J' b r m 1 h x y w z))) (zX n 0 zN)) 0 0 n J 0 [some (.ref 164), some (zi h), some (zi x), some (zi y), some (zi w), none, none, none] []
  obtain ⟨hM1, hM2, hM3, hM4, hM5, hM6⟩ := id hM
  have hT := hM.told
  refine tz_aload_n (pc := 0) dX12_termOf_0 rfl rfl ?_
  refine tz_fI (pc := 1) (kz := 21) (v := (J 164 21)) dX12_termOf_1 fl_X12_92 i_164_21 rfl rfl (fun r_1 => ?_)
  refine tz_if_eq (pc := 4) (tgt := 9) dX12_termOf_4 (by decide) (by omega) (fun h_4 => ?_) (fun h_4 => ?_)
  · refine tz_iload_n (pc := 9) dX12_termOf_9 rfl rfl ?_
    refine tz_if_geT (pc := 10) (tgt := 17) (by omega) dX12_termOf_10 (by decide) (by omega) ?_
    refine tz_aload_n (pc := 17) dX12_termOf_17 rfl rfl ?_
    refine tz_fR (pc := 18) dX12_termOf_18 fl_X12_25 r_164_5 ?_
    refine tz_aload_n (pc := 21) dX12_termOf_21 rfl rfl ?_
    refine tz_fI (pc := 22) (kz := 17) (v := d) dX12_termOf_22 fl_X12_82 i_164_17 rfl hM4 (fun r_22 => ?_)
    refine tz_iload_n (pc := 25) dX12_termOf_25 rfl rfl ?_
    refine tz_iadd (pc := 26) (v := d + h) dX12_termOf_26 rfl ?_
    refine tz_aL (pc := 27) (z := (d + h)) (v := 1) dX12_termOf_27 a_170 rfl (by omega) hk.2 (fun _ => ?_)
    refine tz_istore (pc := 28) (L2 := [_, _, _, _, _, _, _, _]) dX12_termOf_28 (by decide) rfl ?_
    refine tz_iconst (pc := 30) dX12_termOf_30 ?_
    refine tz_istore (pc := 31) (L2 := [_, _, _, _, _, _, _, _]) dX12_termOf_31 (by decide) rfl ?_
    have loop33 : ∀ (f9 : Nat) (t : Int), ((m - t).toNat) < f9 → (0 ≤ t ∧ t ≤ m) → (∀ q, 0 ≤ q → q < t → ¬ nmT J b 1 h x y w q) → tz_At l G M_X12_termOf (tb_rm 2 0 0) none (tb_ZM G 0 0 (zQ n 0 (zqi (fun z J' => tmX J J' b r m 1 h x y w z))) (zX n 0 zN)) 0 0 n J 33 [some (.ref 164), some (zi h), some (zi x), some (zi y), some (zi w), some (zi 1), some (zi t), none] [] := by
      intro f9
      induction f9 with
      | zero => intro t hm9; exact absurd hm9 (Nat.not_lt_zero _)
      | succ f9 ih33 =>
        intro t hm33 hq hn
        refine tz_iload (pc := 33) dX12_termOf_33 rfl ?_
        refine tz_aload_n (pc := 35) dX12_termOf_35 rfl rfl ?_
        refine tz_cV (pc := 36) (m_many hl n _ b r d s m hM) vl_X12_96 dX12_termOf_36 o_164 rfl rfl (Nat.le_of_ble_eq_true rfl) ⟨(Nat.le_of_ble_eq_true rfl), (Nat.le_of_ble_eq_true rfl)⟩ rfl rfl (Nat.le_of_ble_eq_true rfl) (Nat.le_of_ble_eq_true rfl) (fun r9 J_36 hq9 => ?_)
        obtain ⟨z_36, rfl, hz_36, rfl, rfl⟩ := hq9
        refine tz_icmp_ge (pc := 39) (tgt := 67) dX12_termOf_39 (by decide) (by omega) (by omega) (fun h_39 => ?_) (fun h_39 => ?_)
        · have hz0 := hM.ar (t := x) (by omega)
          refine tz_iconst (pc := 67) dX12_termOf_67 ?_
          refine tz_istore (pc := 68) (L2 := [_, _, _, _, _, _, _, _]) dX12_termOf_68 (by decide) rfl ?_
          refine tz_iload (pc := 70) dX12_termOf_70 rfl ?_
          refine tz_if_leF (pc := 72) (tgt := 95) (by decide) dX12_termOf_72 (by decide) (by decide) ?_
          refine tz_iload (pc := 75) dX12_termOf_75 rfl ?_
          refine tz_aload_n (pc := 77) dX12_termOf_77 rfl rfl ?_
          refine tz_fR (pc := 78) dX12_termOf_78 fl_X12_19 r_164_3 ?_
          refine tz_aload_n (pc := 81) dX12_termOf_81 rfl rfl ?_
          refine tz_fI (pc := 82) (kz := 15) (v := b) dX12_termOf_82 fl_X12_71 i_164_15 rfl hM2 (fun r_82 => ?_)
          refine tz_iload_n (pc := 85) dX12_termOf_85 rfl rfl ?_
          refine tz_iadd (pc := 86) (v := b + x) dX12_termOf_86 rfl ?_
          refine tz_aL (pc := 87) (z := (b + x)) (v := (J 168 (b + x))) dX12_termOf_87 a_168 rfl (by omega) rfl (fun r_87 => ?_)
          refine tz_iconst (pc := 88) dX12_termOf_88 ?_
          refine tz_iadd (pc := 89) (v := (J 168 (b + x)) + 1) dX12_termOf_89 rfl ?_
          refine tz_cS (pc := 90) (zm_greater hl n _ _ _ (by decide) (by omega)) sl_X12_104 dX12_termOf_90 rfl rfl (Nat.le_of_ble_eq_true rfl) ⟨(Nat.le_of_ble_eq_true rfl), (Nat.le_of_ble_eq_true rfl)⟩ rfl rfl (Nat.le_of_ble_eq_true rfl) (Nat.le_of_ble_eq_true rfl) (fun r9 J_90 hq9 => ?_)
          obtain ⟨z_90, rfl, hz_90, rfl, hg_90⟩ := hq9
          have gz_90 : (1 ≤ z_90 ∧ ((J 168 (b + x)) + 1) ≤ z_90) ∧ (z_90 = 1 ∨ z_90 = ((J 168 (b + x)) + 1)) := by rw [← hg_90]; split <;> omega
          have gy_90 : zmax 1 ((J 168 (b + x)) + 1) = z_90 := by have := zmax_le 1 ((J 168 (b + x)) + 1); omega
          refine tz_istore (pc := 93) (L2 := [_, _, _, _, _, _, _, _]) dX12_termOf_93 (by decide) rfl ?_
          refine tz_iload (pc := 95) dX12_termOf_95 rfl ?_
          refine tz_iconst (pc := 97) dX12_termOf_97 ?_
          refine tz_icmp_leT (pc := 98) (tgt := 121) (by decide) dX12_termOf_98 (by decide) (by decide) (by decide) ?_
          refine tz_iload (pc := 121) dX12_termOf_121 rfl ?_
          refine tz_iconst (pc := 123) dX12_termOf_123 ?_
          refine tz_icmp_leT (pc := 124) (tgt := 148) (by decide) dX12_termOf_124 (by decide) (by decide) (by decide) ?_
          refine tz_aload_n (pc := 148) dX12_termOf_148 rfl rfl ?_
          refine tz_iload (pc := 149) dX12_termOf_149 rfl ?_
          refine tz_bipush (pc := 151) dX12_termOf_151 (by decide) ?_
          refine tz_icmp_gt (pc := 153) (tgt := 166) dX12_termOf_153 (by decide) (by omega) (by decide) (fun h_153 => ?_) (fun h_153 => ?_)
          · refine tz_iconst (pc := 166) dX12_termOf_166 ?_
            refine tz_goto (pc := 167) (tgt := 171) dX12_termOf_167 (by decide) ?_
            refine tz_pZ (pc := 171) (kz := 21) dX12_termOf_171 fl_X12_92 i_164_21 rfl rfl (Or.inr rfl) ?_
            refine tz_aload_n (pc := 174) dX12_termOf_174 rfl rfl ?_
            refine tz_fI (pc := 175) (kz := 21) (v := 1) dX12_termOf_175 fl_X12_92 i_164_21 rfl rfl (fun _ => ?_)
            refine tz_if_eqF (pc := 178) (tgt := 183) (by decide) dX12_termOf_178 (by decide) (by decide) ?_
            refine tz_iconst (pc := 181) dX12_termOf_181 ?_
            exact tz_iret (pc := 182) (z := 0) dX12_termOf_182 rfl (Nat.le_of_ble_eq_true rfl) (Nat.le_of_ble_eq_true rfl) ⟨Nat.le_refl _, Nat.le_add_right _ _⟩ ⟨_, rfl, (by decide), (by have hd9 : dpS (fun t => J 168 (b + t)) 1 x y w = z_90 := (by unfold dpS; simp only [show ¬ ((1 : Int) ≤ 0) by decide, show ((1 : Int) ≤ 1) by decide, if_true, if_false, gy_90]); exact Or.inr ⟨fun q a c => hn q a (by omega), Or.inr ⟨by rw [hd9]; omega, rfl, rfl⟩⟩)⟩
          · refine tz_aload_n (pc := 156) dX12_termOf_156 rfl rfl ?_
            refine tz_cV (pc := 157) (m_many hl n _ b r d s m hM) vl_X12_96 dX12_termOf_157 o_164 rfl rfl (Nat.le_of_ble_eq_true rfl) ⟨(Nat.le_of_ble_eq_true rfl), (Nat.le_of_ble_eq_true rfl)⟩ rfl rfl (Nat.le_of_ble_eq_true rfl) (Nat.le_of_ble_eq_true rfl) (fun r9 J_157 hq9 => ?_)
            obtain ⟨z_157, rfl, hz_157, rfl, rfl⟩ := hq9
            refine tz_sipush (pc := 160) dX12_termOf_160 (by decide) ?_
            refine tz_icmp_ne (pc := 163) (tgt := 170) dX12_termOf_163 (by decide) (by omega) (by decide) (fun h_163 => ?_) (fun h_163 => ?_)
            · refine tz_iconst (pc := 170) dX12_termOf_170 ?_
              refine tz_pZ (pc := 171) (kz := 21) dX12_termOf_171 fl_X12_92 i_164_21 rfl rfl (Or.inl rfl) ?_
              refine tz_aload_n (pc := 174) dX12_termOf_174 rfl rfl ?_
              refine tz_fI (pc := 175) (kz := 21) (v := 0) dX12_termOf_175 fl_X12_92 i_164_21 rfl rfl (fun _ => ?_)
              refine tz_if_eqT (pc := 178) (tgt := 183) (by decide) dX12_termOf_178 (by decide) (by decide) ?_
              refine tz_aload_n (pc := 183) dX12_termOf_183 rfl rfl ?_
              refine tz_cV (pc := 184) (m_many hl n _ b r d s m (hM.of ⟨zup_ne (by decide), zup_ne (by decide), zup_ne (by decide)⟩ rfl rfl rfl rfl rfl)) vl_X12_96 dX12_termOf_184 o_164 rfl rfl (Nat.le_of_ble_eq_true rfl) ⟨(Nat.le_of_ble_eq_true rfl), (Nat.le_of_ble_eq_true rfl)⟩ rfl rfl (Nat.le_of_ble_eq_true rfl) (Nat.le_of_ble_eq_true rfl) (fun r9 J_184 hq9 => ?_)
              obtain ⟨z_184, rfl, hz_184, rfl, rfl⟩ := hq9
              refine tz_istore (pc := 187) (L2 := [_, _, _, _, _, _, _, _]) dX12_termOf_187 (by decide) rfl ?_
              refine tz_aload_n (pc := 189) dX12_termOf_189 rfl rfl ?_
              refine tz_fR (pc := 190) dX12_termOf_190 fl_X12_13 r_164_1 ?_
              refine tz_aload_n (pc := 193) dX12_termOf_193 rfl rfl ?_
              refine tz_fI (pc := 194) (kz := 15) (v := b) dX12_termOf_194 fl_X12_71 i_164_15 rfl hM2 (fun r_194 => ?_)
              refine tz_iload (pc := 197) dX12_termOf_197 rfl ?_
              refine tz_iadd (pc := 199) (v := b + m) dX12_termOf_199 rfl ?_
              refine tz_iload_n (pc := 200) dX12_termOf_200 rfl rfl ?_
              refine tz_aS (pc := 201) (z := (b + m)) dX12_termOf_201 a_166 rfl (by omega) (by omega) ?_
              refine tz_aload_n (pc := 202) dX12_termOf_202 rfl rfl ?_
              refine tz_fR (pc := 203) dX12_termOf_203 fl_X12_16 r_164_2 ?_
              refine tz_iconst (pc := 206) dX12_termOf_206 ?_
              refine tz_aload_n (pc := 207) dX12_termOf_207 rfl rfl ?_
              refine tz_fI (pc := 208) (kz := 15) (v := b) dX12_termOf_208 fl_X12_71 i_164_15 rfl hM2 (fun r_208 => ?_)
              refine tz_iload (pc := 211) dX12_termOf_211 rfl ?_
              refine tz_iadd (pc := 213) (v := b + m) dX12_termOf_213 rfl ?_
              refine tz_imul (pc := 214) (v := 3 * (b + m)) dX12_termOf_214 rfl ?_
              refine tz_iload (pc := 215) dX12_termOf_215 rfl ?_
              refine tz_if_leF (pc := 217) (tgt := 224) (by decide) dX12_termOf_217 (by decide) (by decide) ?_
              refine tz_iload_n (pc := 220) dX12_termOf_220 rfl rfl ?_
              refine tz_goto (pc := 221) (tgt := 225) dX12_termOf_221 (by decide) ?_
              refine tz_aS (pc := 225) (z := (3 * (b + m))) dX12_termOf_225 a_167 rfl (by omega) (by omega) ?_
              refine tz_aload_n (pc := 226) dX12_termOf_226 rfl rfl ?_
              refine tz_fR (pc := 227) dX12_termOf_227 fl_X12_16 r_164_2 ?_
              refine tz_iconst (pc := 230) dX12_termOf_230 ?_
              refine tz_aload_n (pc := 231) dX12_termOf_231 rfl rfl ?_
              refine tz_fI (pc := 232) (kz := 15) (v := b) dX12_termOf_232 fl_X12_71 i_164_15 rfl hM2 (fun r_232 => ?_)
              refine tz_iload (pc := 235) dX12_termOf_235 rfl ?_
              refine tz_iadd (pc := 237) (v := b + m) dX12_termOf_237 rfl ?_
              refine tz_imul (pc := 238) (v := 3 * (b + m)) dX12_termOf_238 rfl ?_
              refine tz_iconst (pc := 239) dX12_termOf_239 ?_
              refine tz_iadd (pc := 240) (v := (3 * (b + m)) + 1) dX12_termOf_240 rfl ?_
              refine tz_iload (pc := 241) dX12_termOf_241 rfl ?_
              refine tz_iconst (pc := 243) dX12_termOf_243 ?_
              refine tz_icmp_leT (pc := 244) (tgt := 251) (by decide) dX12_termOf_244 (by decide) (by decide) (by decide) ?_
              refine tz_iconst (pc := 251) dX12_termOf_251 ?_
              refine tz_aS (pc := 252) (z := ((3 * (b + m)) + 1)) dX12_termOf_252 a_167 rfl (by omega) (by decide) ?_
              refine tz_aload_n (pc := 253) dX12_termOf_253 rfl rfl ?_
              refine tz_fR (pc := 254) dX12_termOf_254 fl_X12_16 r_164_2 ?_
              refine tz_iconst (pc := 257) dX12_termOf_257 ?_
              refine tz_aload_n (pc := 258) dX12_termOf_258 rfl rfl ?_
              refine tz_fI (pc := 259) (kz := 15) (v := b) dX12_termOf_259 fl_X12_71 i_164_15 rfl hM2 (fun r_259 => ?_)
              refine tz_iload (pc := 262) dX12_termOf_262 rfl ?_
              refine tz_iadd (pc := 264) (v := b + m) dX12_termOf_264 rfl ?_
              refine tz_imul (pc := 265) (v := 3 * (b + m)) dX12_termOf_265 rfl ?_
              refine tz_iconst (pc := 266) dX12_termOf_266 ?_
              refine tz_iadd (pc := 267) (v := (3 * (b + m)) + 2) dX12_termOf_267 rfl ?_
              refine tz_iload (pc := 268) dX12_termOf_268 rfl ?_
              refine tz_iconst (pc := 270) dX12_termOf_270 ?_
              refine tz_icmp_leT (pc := 271) (tgt := 279) (by decide) dX12_termOf_271 (by decide) (by decide) (by decide) ?_
              refine tz_iconst (pc := 279) dX12_termOf_279 ?_
              refine tz_aS (pc := 280) (z := ((3 * (b + m)) + 2)) dX12_termOf_280 a_167 rfl (by omega) (by decide) ?_
              refine tz_aload_n (pc := 281) dX12_termOf_281 rfl rfl ?_
              refine tz_fR (pc := 282) dX12_termOf_282 fl_X12_19 r_164_3 ?_
              refine tz_aload_n (pc := 285) dX12_termOf_285 rfl rfl ?_
              refine tz_fI (pc := 286) (kz := 15) (v := b) dX12_termOf_286 fl_X12_71 i_164_15 rfl hM2 (fun r_286 => ?_)
              refine tz_iload (pc := 289) dX12_termOf_289 rfl ?_
              refine tz_iadd (pc := 291) (v := b + m) dX12_termOf_291 rfl ?_
              refine tz_iload (pc := 292) dX12_termOf_292 rfl ?_
              refine tz_aS (pc := 294) (z := (b + m)) dX12_termOf_294 a_168 rfl (by omega) (by omega) ?_
              refine tz_aload_n (pc := 295) dX12_termOf_295 rfl rfl ?_
              refine tz_fR (pc := 296) dX12_termOf_296 fl_X12_9 r_164_0 ?_
              refine tz_aload_n (pc := 299) dX12_termOf_299 rfl rfl ?_
              refine tz_fI (pc := 300) (kz := 16) (v := r) dX12_termOf_300 fl_X12_85 i_164_16 rfl hM3 (fun r_300 => ?_)
              refine tz_iconst (pc := 303) dX12_termOf_303 ?_
              refine tz_iadd (pc := 304) (v := r) dX12_termOf_304 (Int.add_zero _) ?_
              refine tz_dup2 (pc := 305) dX12_termOf_305 rfl rfl ?_
              refine tz_aL (pc := 306) (z := r) (v := m) dX12_termOf_306 a_165 rfl (by omega) hM5 (fun r_306 => ?_)
              refine tz_iconst (pc := 307) dX12_termOf_307 ?_
              refine tz_iadd (pc := 308) (v := m + 1) dX12_termOf_308 rfl ?_
              refine tz_aS (pc := 309) (z := r) dX12_termOf_309 a_165 rfl (by omega) (by omega) ?_
              refine tz_iload (pc := 310) dX12_termOf_310 rfl ?_
              exact tz_iret (pc := 312) (z := m) dX12_termOf_312 rfl (Nat.le_of_ble_eq_true rfl) (Nat.le_of_ble_eq_true rfl) ⟨Nat.le_refl _, Nat.le_add_right _ _⟩ ⟨_, rfl, (by omega), (by have hd9 : dpS (fun t => J 168 (b + t)) 1 x y w = z_90 := (by unfold dpS; simp only [show ¬ ((1 : Int) ≤ 0) by decide, show ((1 : Int) ≤ 1) by decide, if_true, if_false, gy_90]); exact Or.inr ⟨fun q a c => hn q a (by omega), Or.inl ⟨by rw [hd9]; omega, by omega, rfl, by rw [hd9]; rfl⟩⟩)⟩
            · refine tz_iconst (pc := 166) dX12_termOf_166 ?_
              refine tz_goto (pc := 167) (tgt := 171) dX12_termOf_167 (by decide) ?_
              refine tz_pZ (pc := 171) (kz := 21) dX12_termOf_171 fl_X12_92 i_164_21 rfl rfl (Or.inr rfl) ?_
              refine tz_aload_n (pc := 174) dX12_termOf_174 rfl rfl ?_
              refine tz_fI (pc := 175) (kz := 21) (v := 1) dX12_termOf_175 fl_X12_92 i_164_21 rfl rfl (fun _ => ?_)
              refine tz_if_eqF (pc := 178) (tgt := 183) (by decide) dX12_termOf_178 (by decide) (by decide) ?_
              refine tz_iconst (pc := 181) dX12_termOf_181 ?_
              exact tz_iret (pc := 182) (z := 0) dX12_termOf_182 rfl (Nat.le_of_ble_eq_true rfl) (Nat.le_of_ble_eq_true rfl) ⟨Nat.le_refl _, Nat.le_add_right _ _⟩ ⟨_, rfl, (by decide), (by have hd9 : dpS (fun t => J 168 (b + t)) 1 x y w = z_90 := (by unfold dpS; simp only [show ¬ ((1 : Int) ≤ 0) by decide, show ((1 : Int) ≤ 1) by decide, if_true, if_false, gy_90]); exact Or.inr ⟨fun q a c => hn q a (by omega), Or.inr ⟨by rw [hd9]; omega, rfl, rfl⟩⟩)⟩
        · refine tz_aload_n (pc := 42) dX12_termOf_42 rfl rfl ?_
          refine tz_iload (pc := 43) dX12_termOf_43 rfl ?_
          refine tz_iload_n (pc := 45) dX12_termOf_45 rfl rfl ?_
          refine tz_iload (pc := 46) dX12_termOf_46 rfl ?_
          refine tz_iload_n (pc := 48) dX12_termOf_48 rfl rfl ?_
          refine tz_iload_n (pc := 49) dX12_termOf_49 rfl rfl ?_
          refine tz_iload (pc := 50) dX12_termOf_50 rfl ?_
          refine tz_cV (pc := 52) (m_isThat hl n _ _ _ _ _ _ _ (by omega) (by omega) (by decide) (by omega) (by omega) (by omega) b r d s m hM (by omega)) vl_X12_100 dX12_termOf_52 o_164 rfl rfl (Nat.le_of_ble_eq_true rfl) ⟨(Nat.le_of_ble_eq_true rfl), (Nat.le_of_ble_eq_true rfl)⟩ rfl rfl (Nat.le_of_ble_eq_true rfl) (Nat.le_of_ble_eq_true rfl) (fun r9 J_52 hq9 => ?_)
          obtain ⟨zi9, rfl, hz_52, rfl, hi1, hi2⟩ := hq9
          refine tz_if_eq (pc := 55) (tgt := 61) dX12_termOf_55 (by decide) (by omega) (fun h_55 => ?_) (fun h_55 => ?_)
          · refine tz_iinc (pc := 61) (z := t + 1) (L2 := [_, _, _, _, _, _, _, _]) dX12_termOf_61 rfl (by omega) rfl ?_
            refine tz_goto (pc := 64) (tgt := 33) dX12_termOf_64 (by decide) ?_
            exact ih33 (t + 1) (by omega) (by omega) (fun q a c => (Decidable.em (q = t)).elim (fun e => by rw [e]; exact fun e9 => by have := hi2.mpr e9; omega) (fun e => hn q a (by omega)))
          · refine tz_iload (pc := 58) dX12_termOf_58 rfl ?_
            exact tz_iret (pc := 60) (z := t) dX12_termOf_60 rfl (Nat.le_of_ble_eq_true rfl) (Nat.le_of_ble_eq_true rfl) ⟨Nat.le_refl _, Nat.le_add_right _ _⟩ ⟨_, rfl, (by omega), Or.inl ⟨t, by omega, hi2.mp (by omega), rfl, rfl⟩⟩
    exact loop33 _ 0 (Nat.lt_succ_self _) (by omega) (fun q a c => by omega)
  · refine tz_iconst (pc := 7) dX12_termOf_7 ?_
    exact tz_iret (pc := 8) (z := 0) dX12_termOf_8 rfl (Nat.le_of_ble_eq_true rfl) (Nat.le_of_ble_eq_true rfl) ⟨Nat.le_refl _, Nat.le_add_right _ _⟩ ⟨_, rfl, (by decide), (absurd h21 (by omega))⟩

set_option maxHeartbeats 4000000 in
set_option maxRecDepth 100000 in
theorem x_tm2 {l : Launch} {G : tb_G} (hl : l.stackTraces = false) (n : Nat) (J : zJ) (h : Int) (x : Int) (y : Int) (w : Int) (hr_h : -2147483648 ≤ h ∧ h < 2147483648) (hr_x : -2147483648 ≤ x ∧ x < 2147483648) (hr_y : -2147483648 ≤ y ∧ y < 2147483648) (hr_w : -2147483648 ≤ w ∧ w < 2147483648) (b r d s m : Int) (hM : MS J b r d s m) (hh : -8 ≤ h ∧ h < s) (hk : 0 ≤ h ∧ J 170 (d + h) = 2) (h21 : J 164 21 = 0) (hg : (0 < (2 : Int) → 0 ≤ x ∧ x < m) ∧ (1 < (2 : Int) → 0 ≤ y ∧ y < m) ∧ (2 < (2 : Int) → 0 ≤ w ∧ w < m)) : tz_Ok l G M_X12_termOf 2 0 0 [.ref 164, zi h, zi x, zi y, zi w] n J (zqi (fun z J' => tmX J J' b r m 2 h x y w z)) zN := by
  refine tz_Ok.of hl (by decide +kernel) rfl (tb_c1 rfl) (Nat.le_of_ble_eq_true rfl) ?_
  show tz_At l G M_X12_termOf (tb_rm 2 0 0) none (tb_ZM G 0 0 (zQ n 0 (zqi (fun z J' => tmX J J' b r m 2 h x y w z))) (zX n 0 zN)) 0 0 n J 0 [some (.ref 164), some (zi h), some (zi x), some (zi y), some (zi w), none, none, none] []
  obtain ⟨hM1, hM2, hM3, hM4, hM5, hM6⟩ := id hM
  have hT := hM.told
  refine tz_aload_n (pc := 0) dX12_termOf_0 rfl rfl ?_
  refine tz_fI (pc := 1) (kz := 21) (v := (J 164 21)) dX12_termOf_1 fl_X12_92 i_164_21 rfl rfl (fun r_1 => ?_)
  refine tz_if_eq (pc := 4) (tgt := 9) dX12_termOf_4 (by decide) (by omega) (fun h_4 => ?_) (fun h_4 => ?_)
  · refine tz_iload_n (pc := 9) dX12_termOf_9 rfl rfl ?_
    refine tz_if_geT (pc := 10) (tgt := 17) (by omega) dX12_termOf_10 (by decide) (by omega) ?_
    refine tz_aload_n (pc := 17) dX12_termOf_17 rfl rfl ?_
    refine tz_fR (pc := 18) dX12_termOf_18 fl_X12_25 r_164_5 ?_
    refine tz_aload_n (pc := 21) dX12_termOf_21 rfl rfl ?_
    refine tz_fI (pc := 22) (kz := 17) (v := d) dX12_termOf_22 fl_X12_82 i_164_17 rfl hM4 (fun r_22 => ?_)
    refine tz_iload_n (pc := 25) dX12_termOf_25 rfl rfl ?_
    refine tz_iadd (pc := 26) (v := d + h) dX12_termOf_26 rfl ?_
    refine tz_aL (pc := 27) (z := (d + h)) (v := 2) dX12_termOf_27 a_170 rfl (by omega) hk.2 (fun _ => ?_)
    refine tz_istore (pc := 28) (L2 := [_, _, _, _, _, _, _, _]) dX12_termOf_28 (by decide) rfl ?_
    refine tz_iconst (pc := 30) dX12_termOf_30 ?_
    refine tz_istore (pc := 31) (L2 := [_, _, _, _, _, _, _, _]) dX12_termOf_31 (by decide) rfl ?_
    have loop33 : ∀ (f9 : Nat) (t : Int), ((m - t).toNat) < f9 → (0 ≤ t ∧ t ≤ m) → (∀ q, 0 ≤ q → q < t → ¬ nmT J b 2 h x y w q) → tz_At l G M_X12_termOf (tb_rm 2 0 0) none (tb_ZM G 0 0 (zQ n 0 (zqi (fun z J' => tmX J J' b r m 2 h x y w z))) (zX n 0 zN)) 0 0 n J 33 [some (.ref 164), some (zi h), some (zi x), some (zi y), some (zi w), some (zi 2), some (zi t), none] [] := by
      intro f9
      induction f9 with
      | zero => intro t hm9; exact absurd hm9 (Nat.not_lt_zero _)
      | succ f9 ih33 =>
        intro t hm33 hq hn
        refine tz_iload (pc := 33) dX12_termOf_33 rfl ?_
        refine tz_aload_n (pc := 35) dX12_termOf_35 rfl rfl ?_
        refine tz_cV (pc := 36) (m_many hl n _ b r d s m hM) vl_X12_96 dX12_termOf_36 o_164 rfl rfl (Nat.le_of_ble_eq_true rfl) ⟨(Nat.le_of_ble_eq_true rfl), (Nat.le_of_ble_eq_true rfl)⟩ rfl rfl (Nat.le_of_ble_eq_true rfl) (Nat.le_of_ble_eq_true rfl) (fun r9 J_36 hq9 => ?_)
        obtain ⟨z_36, rfl, hz_36, rfl, rfl⟩ := hq9
        refine tz_icmp_ge (pc := 39) (tgt := 67) dX12_termOf_39 (by decide) (by omega) (by omega) (fun h_39 => ?_) (fun h_39 => ?_)
        · have hz0 := hM.ar (t := x) (by omega)
          have hz1 := hM.ar (t := y) (by omega)
          refine tz_iconst (pc := 67) dX12_termOf_67 ?_
          refine tz_istore (pc := 68) (L2 := [_, _, _, _, _, _, _, _]) dX12_termOf_68 (by decide) rfl ?_
          refine tz_iload (pc := 70) dX12_termOf_70 rfl ?_
          refine tz_if_leF (pc := 72) (tgt := 95) (by decide) dX12_termOf_72 (by decide) (by decide) ?_
          refine tz_iload (pc := 75) dX12_termOf_75 rfl ?_
          refine tz_aload_n (pc := 77) dX12_termOf_77 rfl rfl ?_
          refine tz_fR (pc := 78) dX12_termOf_78 fl_X12_19 r_164_3 ?_
          refine tz_aload_n (pc := 81) dX12_termOf_81 rfl rfl ?_
          refine tz_fI (pc := 82) (kz := 15) (v := b) dX12_termOf_82 fl_X12_71 i_164_15 rfl hM2 (fun r_82 => ?_)
          refine tz_iload_n (pc := 85) dX12_termOf_85 rfl rfl ?_
          refine tz_iadd (pc := 86) (v := b + x) dX12_termOf_86 rfl ?_
          refine tz_aL (pc := 87) (z := (b + x)) (v := (J 168 (b + x))) dX12_termOf_87 a_168 rfl (by omega) rfl (fun r_87 => ?_)
          refine tz_iconst (pc := 88) dX12_termOf_88 ?_
          refine tz_iadd (pc := 89) (v := (J 168 (b + x)) + 1) dX12_termOf_89 rfl ?_
          refine tz_cS (pc := 90) (zm_greater hl n _ _ _ (by decide) (by omega)) sl_X12_104 dX12_termOf_90 rfl rfl (Nat.le_of_ble_eq_true rfl) ⟨(Nat.le_of_ble_eq_true rfl), (Nat.le_of_ble_eq_true rfl)⟩ rfl rfl (Nat.le_of_ble_eq_true rfl) (Nat.le_of_ble_eq_true rfl) (fun r9 J_90 hq9 => ?_)
          obtain ⟨z_90, rfl, hz_90, rfl, hg_90⟩ := hq9
          have gz_90 : (1 ≤ z_90 ∧ ((J 168 (b + x)) + 1) ≤ z_90) ∧ (z_90 = 1 ∨ z_90 = ((J 168 (b + x)) + 1)) := by rw [← hg_90]; split <;> omega
          have gy_90 : zmax 1 ((J 168 (b + x)) + 1) = z_90 := by have := zmax_le 1 ((J 168 (b + x)) + 1); omega
          refine tz_istore (pc := 93) (L2 := [_, _, _, _, _, _, _, _]) dX12_termOf_93 (by decide) rfl ?_
          refine tz_iload (pc := 95) dX12_termOf_95 rfl ?_
          refine tz_iconst (pc := 97) dX12_termOf_97 ?_
          refine tz_icmp_leF (pc := 98) (tgt := 121) (by decide) dX12_termOf_98 (by decide) (by decide) (by decide) ?_
          refine tz_iload (pc := 101) dX12_termOf_101 rfl ?_
          refine tz_aload_n (pc := 103) dX12_termOf_103 rfl rfl ?_
          refine tz_fR (pc := 104) dX12_termOf_104 fl_X12_19 r_164_3 ?_
          refine tz_aload_n (pc := 107) dX12_termOf_107 rfl rfl ?_
          refine tz_fI (pc := 108) (kz := 15) (v := b) dX12_termOf_108 fl_X12_71 i_164_15 rfl hM2 (fun r_108 => ?_)
          refine tz_iload_n (pc := 111) dX12_termOf_111 rfl rfl ?_
          refine tz_iadd (pc := 112) (v := b + y) dX12_termOf_112 rfl ?_
          refine tz_aL (pc := 113) (z := (b + y)) (v := (J 168 (b + y))) dX12_termOf_113 a_168 rfl (by omega) rfl (fun r_113 => ?_)
          refine tz_iconst (pc := 114) dX12_termOf_114 ?_
          refine tz_iadd (pc := 115) (v := (J 168 (b + y)) + 1) dX12_termOf_115 rfl ?_
          refine tz_cS (pc := 116) (zm_greater hl n _ _ _ (by omega) (by omega)) sl_X12_104 dX12_termOf_116 rfl rfl (Nat.le_of_ble_eq_true rfl) ⟨(Nat.le_of_ble_eq_true rfl), (Nat.le_of_ble_eq_true rfl)⟩ rfl rfl (Nat.le_of_ble_eq_true rfl) (Nat.le_of_ble_eq_true rfl) (fun r9 J_116 hq9 => ?_)
          obtain ⟨z_116, rfl, hz_116, rfl, hg_116⟩ := hq9
          have gz_116 : (z_90 ≤ z_116 ∧ ((J 168 (b + y)) + 1) ≤ z_116) ∧ (z_116 = z_90 ∨ z_116 = ((J 168 (b + y)) + 1)) := by rw [← hg_116]; split <;> omega
          have gy_116 : zmax z_90 ((J 168 (b + y)) + 1) = z_116 := by have := zmax_le z_90 ((J 168 (b + y)) + 1); omega
          refine tz_istore (pc := 119) (L2 := [_, _, _, _, _, _, _, _]) dX12_termOf_119 (by decide) rfl ?_
          refine tz_iload (pc := 121) dX12_termOf_121 rfl ?_
          refine tz_iconst (pc := 123) dX12_termOf_123 ?_
          refine tz_icmp_leT (pc := 124) (tgt := 148) (by decide) dX12_termOf_124 (by decide) (by decide) (by decide) ?_
          refine tz_aload_n (pc := 148) dX12_termOf_148 rfl rfl ?_
          refine tz_iload (pc := 149) dX12_termOf_149 rfl ?_
          refine tz_bipush (pc := 151) dX12_termOf_151 (by decide) ?_
          refine tz_icmp_gt (pc := 153) (tgt := 166) dX12_termOf_153 (by decide) (by omega) (by decide) (fun h_153 => ?_) (fun h_153 => ?_)
          · refine tz_iconst (pc := 166) dX12_termOf_166 ?_
            refine tz_goto (pc := 167) (tgt := 171) dX12_termOf_167 (by decide) ?_
            refine tz_pZ (pc := 171) (kz := 21) dX12_termOf_171 fl_X12_92 i_164_21 rfl rfl (Or.inr rfl) ?_
            refine tz_aload_n (pc := 174) dX12_termOf_174 rfl rfl ?_
            refine tz_fI (pc := 175) (kz := 21) (v := 1) dX12_termOf_175 fl_X12_92 i_164_21 rfl rfl (fun _ => ?_)
            refine tz_if_eqF (pc := 178) (tgt := 183) (by decide) dX12_termOf_178 (by decide) (by decide) ?_
            refine tz_iconst (pc := 181) dX12_termOf_181 ?_
            exact tz_iret (pc := 182) (z := 0) dX12_termOf_182 rfl (Nat.le_of_ble_eq_true rfl) (Nat.le_of_ble_eq_true rfl) ⟨Nat.le_refl _, Nat.le_add_right _ _⟩ ⟨_, rfl, (by decide), (by have hd9 : dpS (fun t => J 168 (b + t)) 2 x y w = z_116 := (by unfold dpS; simp only [show ¬ ((2 : Int) ≤ 0) by decide, show ¬ ((2 : Int) ≤ 1) by decide, show ((2 : Int) ≤ 2) by decide, if_true, if_false, gy_90, gy_116]); exact Or.inr ⟨fun q a c => hn q a (by omega), Or.inr ⟨by rw [hd9]; omega, rfl, rfl⟩⟩)⟩
          · refine tz_aload_n (pc := 156) dX12_termOf_156 rfl rfl ?_
            refine tz_cV (pc := 157) (m_many hl n _ b r d s m hM) vl_X12_96 dX12_termOf_157 o_164 rfl rfl (Nat.le_of_ble_eq_true rfl) ⟨(Nat.le_of_ble_eq_true rfl), (Nat.le_of_ble_eq_true rfl)⟩ rfl rfl (Nat.le_of_ble_eq_true rfl) (Nat.le_of_ble_eq_true rfl) (fun r9 J_157 hq9 => ?_)
            obtain ⟨z_157, rfl, hz_157, rfl, rfl⟩ := hq9
            refine tz_sipush (pc := 160) dX12_termOf_160 (by decide) ?_
            refine tz_icmp_ne (pc := 163) (tgt := 170) dX12_termOf_163 (by decide) (by omega) (by decide) (fun h_163 => ?_) (fun h_163 => ?_)
            · refine tz_iconst (pc := 170) dX12_termOf_170 ?_
              refine tz_pZ (pc := 171) (kz := 21) dX12_termOf_171 fl_X12_92 i_164_21 rfl rfl (Or.inl rfl) ?_
              refine tz_aload_n (pc := 174) dX12_termOf_174 rfl rfl ?_
              refine tz_fI (pc := 175) (kz := 21) (v := 0) dX12_termOf_175 fl_X12_92 i_164_21 rfl rfl (fun _ => ?_)
              refine tz_if_eqT (pc := 178) (tgt := 183) (by decide) dX12_termOf_178 (by decide) (by decide) ?_
              refine tz_aload_n (pc := 183) dX12_termOf_183 rfl rfl ?_
              refine tz_cV (pc := 184) (m_many hl n _ b r d s m (hM.of ⟨zup_ne (by decide), zup_ne (by decide), zup_ne (by decide)⟩ rfl rfl rfl rfl rfl)) vl_X12_96 dX12_termOf_184 o_164 rfl rfl (Nat.le_of_ble_eq_true rfl) ⟨(Nat.le_of_ble_eq_true rfl), (Nat.le_of_ble_eq_true rfl)⟩ rfl rfl (Nat.le_of_ble_eq_true rfl) (Nat.le_of_ble_eq_true rfl) (fun r9 J_184 hq9 => ?_)
              obtain ⟨z_184, rfl, hz_184, rfl, rfl⟩ := hq9
              refine tz_istore (pc := 187) (L2 := [_, _, _, _, _, _, _, _]) dX12_termOf_187 (by decide) rfl ?_
              refine tz_aload_n (pc := 189) dX12_termOf_189 rfl rfl ?_
              refine tz_fR (pc := 190) dX12_termOf_190 fl_X12_13 r_164_1 ?_
              refine tz_aload_n (pc := 193) dX12_termOf_193 rfl rfl ?_
              refine tz_fI (pc := 194) (kz := 15) (v := b) dX12_termOf_194 fl_X12_71 i_164_15 rfl hM2 (fun r_194 => ?_)
              refine tz_iload (pc := 197) dX12_termOf_197 rfl ?_
              refine tz_iadd (pc := 199) (v := b + m) dX12_termOf_199 rfl ?_
              refine tz_iload_n (pc := 200) dX12_termOf_200 rfl rfl ?_
              refine tz_aS (pc := 201) (z := (b + m)) dX12_termOf_201 a_166 rfl (by omega) (by omega) ?_
              refine tz_aload_n (pc := 202) dX12_termOf_202 rfl rfl ?_
              refine tz_fR (pc := 203) dX12_termOf_203 fl_X12_16 r_164_2 ?_
              refine tz_iconst (pc := 206) dX12_termOf_206 ?_
              refine tz_aload_n (pc := 207) dX12_termOf_207 rfl rfl ?_
              refine tz_fI (pc := 208) (kz := 15) (v := b) dX12_termOf_208 fl_X12_71 i_164_15 rfl hM2 (fun r_208 => ?_)
              refine tz_iload (pc := 211) dX12_termOf_211 rfl ?_
              refine tz_iadd (pc := 213) (v := b + m) dX12_termOf_213 rfl ?_
              refine tz_imul (pc := 214) (v := 3 * (b + m)) dX12_termOf_214 rfl ?_
              refine tz_iload (pc := 215) dX12_termOf_215 rfl ?_
              refine tz_if_leF (pc := 217) (tgt := 224) (by decide) dX12_termOf_217 (by decide) (by decide) ?_
              refine tz_iload_n (pc := 220) dX12_termOf_220 rfl rfl ?_
              refine tz_goto (pc := 221) (tgt := 225) dX12_termOf_221 (by decide) ?_
              refine tz_aS (pc := 225) (z := (3 * (b + m))) dX12_termOf_225 a_167 rfl (by omega) (by omega) ?_
              refine tz_aload_n (pc := 226) dX12_termOf_226 rfl rfl ?_
              refine tz_fR (pc := 227) dX12_termOf_227 fl_X12_16 r_164_2 ?_
              refine tz_iconst (pc := 230) dX12_termOf_230 ?_
              refine tz_aload_n (pc := 231) dX12_termOf_231 rfl rfl ?_
              refine tz_fI (pc := 232) (kz := 15) (v := b) dX12_termOf_232 fl_X12_71 i_164_15 rfl hM2 (fun r_232 => ?_)
              refine tz_iload (pc := 235) dX12_termOf_235 rfl ?_
              refine tz_iadd (pc := 237) (v := b + m) dX12_termOf_237 rfl ?_
              refine tz_imul (pc := 238) (v := 3 * (b + m)) dX12_termOf_238 rfl ?_
              refine tz_iconst (pc := 239) dX12_termOf_239 ?_
              refine tz_iadd (pc := 240) (v := (3 * (b + m)) + 1) dX12_termOf_240 rfl ?_
              refine tz_iload (pc := 241) dX12_termOf_241 rfl ?_
              refine tz_iconst (pc := 243) dX12_termOf_243 ?_
              refine tz_icmp_leF (pc := 244) (tgt := 251) (by decide) dX12_termOf_244 (by decide) (by decide) (by decide) ?_
              refine tz_iload_n (pc := 247) dX12_termOf_247 rfl rfl ?_
              refine tz_goto (pc := 248) (tgt := 252) dX12_termOf_248 (by decide) ?_
              refine tz_aS (pc := 252) (z := ((3 * (b + m)) + 1)) dX12_termOf_252 a_167 rfl (by omega) (by omega) ?_
              refine tz_aload_n (pc := 253) dX12_termOf_253 rfl rfl ?_
              refine tz_fR (pc := 254) dX12_termOf_254 fl_X12_16 r_164_2 ?_
              refine tz_iconst (pc := 257) dX12_termOf_257 ?_
              refine tz_aload_n (pc := 258) dX12_termOf_258 rfl rfl ?_
              refine tz_fI (pc := 259) (kz := 15) (v := b) dX12_termOf_259 fl_X12_71 i_164_15 rfl hM2 (fun r_259 => ?_)
              refine tz_iload (pc := 262) dX12_termOf_262 rfl ?_
              refine tz_iadd (pc := 264) (v := b + m) dX12_termOf_264 rfl ?_
              refine tz_imul (pc := 265) (v := 3 * (b + m)) dX12_termOf_265 rfl ?_
              refine tz_iconst (pc := 266) dX12_termOf_266 ?_
              refine tz_iadd (pc := 267) (v := (3 * (b + m)) + 2) dX12_termOf_267 rfl ?_
              refine tz_iload (pc := 268) dX12_termOf_268 rfl ?_
              refine tz_iconst (pc := 270) dX12_termOf_270 ?_
              refine tz_icmp_leT (pc := 271) (tgt := 279) (by decide) dX12_termOf_271 (by decide) (by decide) (by decide) ?_
              refine tz_iconst (pc := 279) dX12_termOf_279 ?_
              refine tz_aS (pc := 280) (z := ((3 * (b + m)) + 2)) dX12_termOf_280 a_167 rfl (by omega) (by decide) ?_
              refine tz_aload_n (pc := 281) dX12_termOf_281 rfl rfl ?_
              refine tz_fR (pc := 282) dX12_termOf_282 fl_X12_19 r_164_3 ?_
              refine tz_aload_n (pc := 285) dX12_termOf_285 rfl rfl ?_
              refine tz_fI (pc := 286) (kz := 15) (v := b) dX12_termOf_286 fl_X12_71 i_164_15 rfl hM2 (fun r_286 => ?_)
              refine tz_iload (pc := 289) dX12_termOf_289 rfl ?_
              refine tz_iadd (pc := 291) (v := b + m) dX12_termOf_291 rfl ?_
              refine tz_iload (pc := 292) dX12_termOf_292 rfl ?_
              refine tz_aS (pc := 294) (z := (b + m)) dX12_termOf_294 a_168 rfl (by omega) (by omega) ?_
              refine tz_aload_n (pc := 295) dX12_termOf_295 rfl rfl ?_
              refine tz_fR (pc := 296) dX12_termOf_296 fl_X12_9 r_164_0 ?_
              refine tz_aload_n (pc := 299) dX12_termOf_299 rfl rfl ?_
              refine tz_fI (pc := 300) (kz := 16) (v := r) dX12_termOf_300 fl_X12_85 i_164_16 rfl hM3 (fun r_300 => ?_)
              refine tz_iconst (pc := 303) dX12_termOf_303 ?_
              refine tz_iadd (pc := 304) (v := r) dX12_termOf_304 (Int.add_zero _) ?_
              refine tz_dup2 (pc := 305) dX12_termOf_305 rfl rfl ?_
              refine tz_aL (pc := 306) (z := r) (v := m) dX12_termOf_306 a_165 rfl (by omega) hM5 (fun r_306 => ?_)
              refine tz_iconst (pc := 307) dX12_termOf_307 ?_
              refine tz_iadd (pc := 308) (v := m + 1) dX12_termOf_308 rfl ?_
              refine tz_aS (pc := 309) (z := r) dX12_termOf_309 a_165 rfl (by omega) (by omega) ?_
              refine tz_iload (pc := 310) dX12_termOf_310 rfl ?_
              exact tz_iret (pc := 312) (z := m) dX12_termOf_312 rfl (Nat.le_of_ble_eq_true rfl) (Nat.le_of_ble_eq_true rfl) ⟨Nat.le_refl _, Nat.le_add_right _ _⟩ ⟨_, rfl, (by omega), (by have hd9 : dpS (fun t => J 168 (b + t)) 2 x y w = z_116 := (by unfold dpS; simp only [show ¬ ((2 : Int) ≤ 0) by decide, show ¬ ((2 : Int) ≤ 1) by decide, show ((2 : Int) ≤ 2) by decide, if_true, if_false, gy_90, gy_116]); exact Or.inr ⟨fun q a c => hn q a (by omega), Or.inl ⟨by rw [hd9]; omega, by omega, rfl, by rw [hd9]; rfl⟩⟩)⟩
            · refine tz_iconst (pc := 166) dX12_termOf_166 ?_
              refine tz_goto (pc := 167) (tgt := 171) dX12_termOf_167 (by decide) ?_
              refine tz_pZ (pc := 171) (kz := 21) dX12_termOf_171 fl_X12_92 i_164_21 rfl rfl (Or.inr rfl) ?_
              refine tz_aload_n (pc := 174) dX12_termOf_174 rfl rfl ?_
              refine tz_fI (pc := 175) (kz := 21) (v := 1) dX12_termOf_175 fl_X12_92 i_164_21 rfl rfl (fun _ => ?_)
              refine tz_if_eqF (pc := 178) (tgt := 183) (by decide) dX12_termOf_178 (by decide) (by decide) ?_
              refine tz_iconst (pc := 181) dX12_termOf_181 ?_
              exact tz_iret (pc := 182) (z := 0) dX12_termOf_182 rfl (Nat.le_of_ble_eq_true rfl) (Nat.le_of_ble_eq_true rfl) ⟨Nat.le_refl _, Nat.le_add_right _ _⟩ ⟨_, rfl, (by decide), (by have hd9 : dpS (fun t => J 168 (b + t)) 2 x y w = z_116 := (by unfold dpS; simp only [show ¬ ((2 : Int) ≤ 0) by decide, show ¬ ((2 : Int) ≤ 1) by decide, show ((2 : Int) ≤ 2) by decide, if_true, if_false, gy_90, gy_116]); exact Or.inr ⟨fun q a c => hn q a (by omega), Or.inr ⟨by rw [hd9]; omega, rfl, rfl⟩⟩)⟩
        · refine tz_aload_n (pc := 42) dX12_termOf_42 rfl rfl ?_
          refine tz_iload (pc := 43) dX12_termOf_43 rfl ?_
          refine tz_iload_n (pc := 45) dX12_termOf_45 rfl rfl ?_
          refine tz_iload (pc := 46) dX12_termOf_46 rfl ?_
          refine tz_iload_n (pc := 48) dX12_termOf_48 rfl rfl ?_
          refine tz_iload_n (pc := 49) dX12_termOf_49 rfl rfl ?_
          refine tz_iload (pc := 50) dX12_termOf_50 rfl ?_
          refine tz_cV (pc := 52) (m_isThat hl n _ _ _ _ _ _ _ (by omega) (by omega) (by decide) (by omega) (by omega) (by omega) b r d s m hM (by omega)) vl_X12_100 dX12_termOf_52 o_164 rfl rfl (Nat.le_of_ble_eq_true rfl) ⟨(Nat.le_of_ble_eq_true rfl), (Nat.le_of_ble_eq_true rfl)⟩ rfl rfl (Nat.le_of_ble_eq_true rfl) (Nat.le_of_ble_eq_true rfl) (fun r9 J_52 hq9 => ?_)
          obtain ⟨zi9, rfl, hz_52, rfl, hi1, hi2⟩ := hq9
          refine tz_if_eq (pc := 55) (tgt := 61) dX12_termOf_55 (by decide) (by omega) (fun h_55 => ?_) (fun h_55 => ?_)
          · refine tz_iinc (pc := 61) (z := t + 1) (L2 := [_, _, _, _, _, _, _, _]) dX12_termOf_61 rfl (by omega) rfl ?_
            refine tz_goto (pc := 64) (tgt := 33) dX12_termOf_64 (by decide) ?_
            exact ih33 (t + 1) (by omega) (by omega) (fun q a c => (Decidable.em (q = t)).elim (fun e => by rw [e]; exact fun e9 => by have := hi2.mpr e9; omega) (fun e => hn q a (by omega)))
          · refine tz_iload (pc := 58) dX12_termOf_58 rfl ?_
            exact tz_iret (pc := 60) (z := t) dX12_termOf_60 rfl (Nat.le_of_ble_eq_true rfl) (Nat.le_of_ble_eq_true rfl) ⟨Nat.le_refl _, Nat.le_add_right _ _⟩ ⟨_, rfl, (by omega), Or.inl ⟨t, by omega, hi2.mp (by omega), rfl, rfl⟩⟩
    exact loop33 _ 0 (Nat.lt_succ_self _) (by omega) (fun q a c => by omega)
  · refine tz_iconst (pc := 7) dX12_termOf_7 ?_
    exact tz_iret (pc := 8) (z := 0) dX12_termOf_8 rfl (Nat.le_of_ble_eq_true rfl) (Nat.le_of_ble_eq_true rfl) ⟨Nat.le_refl _, Nat.le_add_right _ _⟩ ⟨_, rfl, (by decide), (absurd h21 (by omega))⟩

set_option maxHeartbeats 4000000 in
set_option maxRecDepth 100000 in
theorem x_tm3 {l : Launch} {G : tb_G} (hl : l.stackTraces = false) (n : Nat) (J : zJ) (h : Int) (x : Int) (y : Int) (w : Int) (hr_h : -2147483648 ≤ h ∧ h < 2147483648) (hr_x : -2147483648 ≤ x ∧ x < 2147483648) (hr_y : -2147483648 ≤ y ∧ y < 2147483648) (hr_w : -2147483648 ≤ w ∧ w < 2147483648) (b r d s m : Int) (hM : MS J b r d s m) (hh : -8 ≤ h ∧ h < s) (hk : 0 ≤ h ∧ J 170 (d + h) = 3) (h21 : J 164 21 = 0) (hg : (0 < (3 : Int) → 0 ≤ x ∧ x < m) ∧ (1 < (3 : Int) → 0 ≤ y ∧ y < m) ∧ (2 < (3 : Int) → 0 ≤ w ∧ w < m)) : tz_Ok l G M_X12_termOf 2 0 0 [.ref 164, zi h, zi x, zi y, zi w] n J (zqi (fun z J' => tmX J J' b r m 3 h x y w z)) zN := by
  refine tz_Ok.of hl (by decide +kernel) rfl (tb_c1 rfl) (Nat.le_of_ble_eq_true rfl) ?_
  show tz_At l G M_X12_termOf (tb_rm 2 0 0) none (tb_ZM G 0 0 (zQ n 0 (zqi (fun z J' => tmX J J' b r m 3 h x y w z))) (zX n 0 zN)) 0 0 n J 0 [some (.ref 164), some (zi h), some (zi x), some (zi y), some (zi w), none, none, none] []
  obtain ⟨hM1, hM2, hM3, hM4, hM5, hM6⟩ := id hM
  have hT := hM.told
  refine tz_aload_n (pc := 0) dX12_termOf_0 rfl rfl ?_
  refine tz_fI (pc := 1) (kz := 21) (v := (J 164 21)) dX12_termOf_1 fl_X12_92 i_164_21 rfl rfl (fun r_1 => ?_)
  refine tz_if_eq (pc := 4) (tgt := 9) dX12_termOf_4 (by decide) (by omega) (fun h_4 => ?_) (fun h_4 => ?_)
  · refine tz_iload_n (pc := 9) dX12_termOf_9 rfl rfl ?_
    refine tz_if_geT (pc := 10) (tgt := 17) (by omega) dX12_termOf_10 (by decide) (by omega) ?_
    refine tz_aload_n (pc := 17) dX12_termOf_17 rfl rfl ?_
    refine tz_fR (pc := 18) dX12_termOf_18 fl_X12_25 r_164_5 ?_
    refine tz_aload_n (pc := 21) dX12_termOf_21 rfl rfl ?_
    refine tz_fI (pc := 22) (kz := 17) (v := d) dX12_termOf_22 fl_X12_82 i_164_17 rfl hM4 (fun r_22 => ?_)
    refine tz_iload_n (pc := 25) dX12_termOf_25 rfl rfl ?_
    refine tz_iadd (pc := 26) (v := d + h) dX12_termOf_26 rfl ?_
    refine tz_aL (pc := 27) (z := (d + h)) (v := 3) dX12_termOf_27 a_170 rfl (by omega) hk.2 (fun _ => ?_)
    refine tz_istore (pc := 28) (L2 := [_, _, _, _, _, _, _, _]) dX12_termOf_28 (by decide) rfl ?_
    refine tz_iconst (pc := 30) dX12_termOf_30 ?_
    refine tz_istore (pc := 31) (L2 := [_, _, _, _, _, _, _, _]) dX12_termOf_31 (by decide) rfl ?_
    have loop33 : ∀ (f9 : Nat) (t : Int), ((m - t).toNat) < f9 → (0 ≤ t ∧ t ≤ m) → (∀ q, 0 ≤ q → q < t → ¬ nmT J b 3 h x y w q) → tz_At l G M_X12_termOf (tb_rm 2 0 0) none (tb_ZM G 0 0 (zQ n 0 (zqi (fun z J' => tmX J J' b r m 3 h x y w z))) (zX n 0 zN)) 0 0 n J 33 [some (.ref 164), some (zi h), some (zi x), some (zi y), some (zi w), some (zi 3), some (zi t), none] [] := by
      intro f9
      induction f9 with
      | zero => intro t hm9; exact absurd hm9 (Nat.not_lt_zero _)
      | succ f9 ih33 =>
        intro t hm33 hq hn
        refine tz_iload (pc := 33) dX12_termOf_33 rfl ?_
        refine tz_aload_n (pc := 35) dX12_termOf_35 rfl rfl ?_
        refine tz_cV (pc := 36) (m_many hl n _ b r d s m hM) vl_X12_96 dX12_termOf_36 o_164 rfl rfl (Nat.le_of_ble_eq_true rfl) ⟨(Nat.le_of_ble_eq_true rfl), (Nat.le_of_ble_eq_true rfl)⟩ rfl rfl (Nat.le_of_ble_eq_true rfl) (Nat.le_of_ble_eq_true rfl) (fun r9 J_36 hq9 => ?_)
        obtain ⟨z_36, rfl, hz_36, rfl, rfl⟩ := hq9
        refine tz_icmp_ge (pc := 39) (tgt := 67) dX12_termOf_39 (by decide) (by omega) (by omega) (fun h_39 => ?_) (fun h_39 => ?_)
        · have hz0 := hM.ar (t := x) (by omega)
          have hz1 := hM.ar (t := y) (by omega)
          have hz2 := hM.ar (t := w) (by omega)
          refine tz_iconst (pc := 67) dX12_termOf_67 ?_
          refine tz_istore (pc := 68) (L2 := [_, _, _, _, _, _, _, _]) dX12_termOf_68 (by decide) rfl ?_
          refine tz_iload (pc := 70) dX12_termOf_70 rfl ?_
          refine tz_if_leF (pc := 72) (tgt := 95) (by decide) dX12_termOf_72 (by decide) (by decide) ?_
          refine tz_iload (pc := 75) dX12_termOf_75 rfl ?_
          refine tz_aload_n (pc := 77) dX12_termOf_77 rfl rfl ?_
          refine tz_fR (pc := 78) dX12_termOf_78 fl_X12_19 r_164_3 ?_
          refine tz_aload_n (pc := 81) dX12_termOf_81 rfl rfl ?_
          refine tz_fI (pc := 82) (kz := 15) (v := b) dX12_termOf_82 fl_X12_71 i_164_15 rfl hM2 (fun r_82 => ?_)
          refine tz_iload_n (pc := 85) dX12_termOf_85 rfl rfl ?_
          refine tz_iadd (pc := 86) (v := b + x) dX12_termOf_86 rfl ?_
          refine tz_aL (pc := 87) (z := (b + x)) (v := (J 168 (b + x))) dX12_termOf_87 a_168 rfl (by omega) rfl (fun r_87 => ?_)
          refine tz_iconst (pc := 88) dX12_termOf_88 ?_
          refine tz_iadd (pc := 89) (v := (J 168 (b + x)) + 1) dX12_termOf_89 rfl ?_
          refine tz_cS (pc := 90) (zm_greater hl n _ _ _ (by decide) (by omega)) sl_X12_104 dX12_termOf_90 rfl rfl (Nat.le_of_ble_eq_true rfl) ⟨(Nat.le_of_ble_eq_true rfl), (Nat.le_of_ble_eq_true rfl)⟩ rfl rfl (Nat.le_of_ble_eq_true rfl) (Nat.le_of_ble_eq_true rfl) (fun r9 J_90 hq9 => ?_)
          obtain ⟨z_90, rfl, hz_90, rfl, hg_90⟩ := hq9
          have gz_90 : (1 ≤ z_90 ∧ ((J 168 (b + x)) + 1) ≤ z_90) ∧ (z_90 = 1 ∨ z_90 = ((J 168 (b + x)) + 1)) := by rw [← hg_90]; split <;> omega
          have gy_90 : zmax 1 ((J 168 (b + x)) + 1) = z_90 := by have := zmax_le 1 ((J 168 (b + x)) + 1); omega
          refine tz_istore (pc := 93) (L2 := [_, _, _, _, _, _, _, _]) dX12_termOf_93 (by decide) rfl ?_
          refine tz_iload (pc := 95) dX12_termOf_95 rfl ?_
          refine tz_iconst (pc := 97) dX12_termOf_97 ?_
          refine tz_icmp_leF (pc := 98) (tgt := 121) (by decide) dX12_termOf_98 (by decide) (by decide) (by decide) ?_
          refine tz_iload (pc := 101) dX12_termOf_101 rfl ?_
          refine tz_aload_n (pc := 103) dX12_termOf_103 rfl rfl ?_
          refine tz_fR (pc := 104) dX12_termOf_104 fl_X12_19 r_164_3 ?_
          refine tz_aload_n (pc := 107) dX12_termOf_107 rfl rfl ?_
          refine tz_fI (pc := 108) (kz := 15) (v := b) dX12_termOf_108 fl_X12_71 i_164_15 rfl hM2 (fun r_108 => ?_)
          refine tz_iload_n (pc := 111) dX12_termOf_111 rfl rfl ?_
          refine tz_iadd (pc := 112) (v := b + y) dX12_termOf_112 rfl ?_
          refine tz_aL (pc := 113) (z := (b + y)) (v := (J 168 (b + y))) dX12_termOf_113 a_168 rfl (by omega) rfl (fun r_113 => ?_)
          refine tz_iconst (pc := 114) dX12_termOf_114 ?_
          refine tz_iadd (pc := 115) (v := (J 168 (b + y)) + 1) dX12_termOf_115 rfl ?_
          refine tz_cS (pc := 116) (zm_greater hl n _ _ _ (by omega) (by omega)) sl_X12_104 dX12_termOf_116 rfl rfl (Nat.le_of_ble_eq_true rfl) ⟨(Nat.le_of_ble_eq_true rfl), (Nat.le_of_ble_eq_true rfl)⟩ rfl rfl (Nat.le_of_ble_eq_true rfl) (Nat.le_of_ble_eq_true rfl) (fun r9 J_116 hq9 => ?_)
          obtain ⟨z_116, rfl, hz_116, rfl, hg_116⟩ := hq9
          have gz_116 : (z_90 ≤ z_116 ∧ ((J 168 (b + y)) + 1) ≤ z_116) ∧ (z_116 = z_90 ∨ z_116 = ((J 168 (b + y)) + 1)) := by rw [← hg_116]; split <;> omega
          have gy_116 : zmax z_90 ((J 168 (b + y)) + 1) = z_116 := by have := zmax_le z_90 ((J 168 (b + y)) + 1); omega
          refine tz_istore (pc := 119) (L2 := [_, _, _, _, _, _, _, _]) dX12_termOf_119 (by decide) rfl ?_
          refine tz_iload (pc := 121) dX12_termOf_121 rfl ?_
          refine tz_iconst (pc := 123) dX12_termOf_123 ?_
          refine tz_icmp_leF (pc := 124) (tgt := 148) (by decide) dX12_termOf_124 (by decide) (by decide) (by decide) ?_
          refine tz_iload (pc := 127) dX12_termOf_127 rfl ?_
          refine tz_aload_n (pc := 129) dX12_termOf_129 rfl rfl ?_
          refine tz_fR (pc := 130) dX12_termOf_130 fl_X12_19 r_164_3 ?_
          refine tz_aload_n (pc := 133) dX12_termOf_133 rfl rfl ?_
          refine tz_fI (pc := 134) (kz := 15) (v := b) dX12_termOf_134 fl_X12_71 i_164_15 rfl hM2 (fun r_134 => ?_)
          refine tz_iload (pc := 137) dX12_termOf_137 rfl ?_
          refine tz_iadd (pc := 139) (v := b + w) dX12_termOf_139 rfl ?_
          refine tz_aL (pc := 140) (z := (b + w)) (v := (J 168 (b + w))) dX12_termOf_140 a_168 rfl (by omega) rfl (fun r_140 => ?_)
          refine tz_iconst (pc := 141) dX12_termOf_141 ?_
          refine tz_iadd (pc := 142) (v := (J 168 (b + w)) + 1) dX12_termOf_142 rfl ?_
          refine tz_cS (pc := 143) (zm_greater hl n _ _ _ (by omega) (by omega)) sl_X12_104 dX12_termOf_143 rfl rfl (Nat.le_of_ble_eq_true rfl) ⟨(Nat.le_of_ble_eq_true rfl), (Nat.le_of_ble_eq_true rfl)⟩ rfl rfl (Nat.le_of_ble_eq_true rfl) (Nat.le_of_ble_eq_true rfl) (fun r9 J_143 hq9 => ?_)
          obtain ⟨z_143, rfl, hz_143, rfl, hg_143⟩ := hq9
          have gz_143 : (z_116 ≤ z_143 ∧ ((J 168 (b + w)) + 1) ≤ z_143) ∧ (z_143 = z_116 ∨ z_143 = ((J 168 (b + w)) + 1)) := by rw [← hg_143]; split <;> omega
          have gy_143 : zmax z_116 ((J 168 (b + w)) + 1) = z_143 := by have := zmax_le z_116 ((J 168 (b + w)) + 1); omega
          refine tz_istore (pc := 146) (L2 := [_, _, _, _, _, _, _, _]) dX12_termOf_146 (by decide) rfl ?_
          refine tz_aload_n (pc := 148) dX12_termOf_148 rfl rfl ?_
          refine tz_iload (pc := 149) dX12_termOf_149 rfl ?_
          refine tz_bipush (pc := 151) dX12_termOf_151 (by decide) ?_
          refine tz_icmp_gt (pc := 153) (tgt := 166) dX12_termOf_153 (by decide) (by omega) (by decide) (fun h_153 => ?_) (fun h_153 => ?_)
          · refine tz_iconst (pc := 166) dX12_termOf_166 ?_
            refine tz_goto (pc := 167) (tgt := 171) dX12_termOf_167 (by decide) ?_
            refine tz_pZ (pc := 171) (kz := 21) dX12_termOf_171 fl_X12_92 i_164_21 rfl rfl (Or.inr rfl) ?_
            refine tz_aload_n (pc := 174) dX12_termOf_174 rfl rfl ?_
            refine tz_fI (pc := 175) (kz := 21) (v := 1) dX12_termOf_175 fl_X12_92 i_164_21 rfl rfl (fun _ => ?_)
            refine tz_if_eqF (pc := 178) (tgt := 183) (by decide) dX12_termOf_178 (by decide) (by decide) ?_
            refine tz_iconst (pc := 181) dX12_termOf_181 ?_
            exact tz_iret (pc := 182) (z := 0) dX12_termOf_182 rfl (Nat.le_of_ble_eq_true rfl) (Nat.le_of_ble_eq_true rfl) ⟨Nat.le_refl _, Nat.le_add_right _ _⟩ ⟨_, rfl, (by decide), (by have hd9 : dpS (fun t => J 168 (b + t)) 3 x y w = z_143 := (by unfold dpS; simp only [show ¬ ((3 : Int) ≤ 0) by decide, show ¬ ((3 : Int) ≤ 1) by decide, show ¬ ((3 : Int) ≤ 2) by decide, if_true, if_false, gy_90, gy_116, gy_143]); exact Or.inr ⟨fun q a c => hn q a (by omega), Or.inr ⟨by rw [hd9]; omega, rfl, rfl⟩⟩)⟩
          · refine tz_aload_n (pc := 156) dX12_termOf_156 rfl rfl ?_
            refine tz_cV (pc := 157) (m_many hl n _ b r d s m hM) vl_X12_96 dX12_termOf_157 o_164 rfl rfl (Nat.le_of_ble_eq_true rfl) ⟨(Nat.le_of_ble_eq_true rfl), (Nat.le_of_ble_eq_true rfl)⟩ rfl rfl (Nat.le_of_ble_eq_true rfl) (Nat.le_of_ble_eq_true rfl) (fun r9 J_157 hq9 => ?_)
            obtain ⟨z_157, rfl, hz_157, rfl, rfl⟩ := hq9
            refine tz_sipush (pc := 160) dX12_termOf_160 (by decide) ?_
            refine tz_icmp_ne (pc := 163) (tgt := 170) dX12_termOf_163 (by decide) (by omega) (by decide) (fun h_163 => ?_) (fun h_163 => ?_)
            · refine tz_iconst (pc := 170) dX12_termOf_170 ?_
              refine tz_pZ (pc := 171) (kz := 21) dX12_termOf_171 fl_X12_92 i_164_21 rfl rfl (Or.inl rfl) ?_
              refine tz_aload_n (pc := 174) dX12_termOf_174 rfl rfl ?_
              refine tz_fI (pc := 175) (kz := 21) (v := 0) dX12_termOf_175 fl_X12_92 i_164_21 rfl rfl (fun _ => ?_)
              refine tz_if_eqT (pc := 178) (tgt := 183) (by decide) dX12_termOf_178 (by decide) (by decide) ?_
              refine tz_aload_n (pc := 183) dX12_termOf_183 rfl rfl ?_
              refine tz_cV (pc := 184) (m_many hl n _ b r d s m (hM.of ⟨zup_ne (by decide), zup_ne (by decide), zup_ne (by decide)⟩ rfl rfl rfl rfl rfl)) vl_X12_96 dX12_termOf_184 o_164 rfl rfl (Nat.le_of_ble_eq_true rfl) ⟨(Nat.le_of_ble_eq_true rfl), (Nat.le_of_ble_eq_true rfl)⟩ rfl rfl (Nat.le_of_ble_eq_true rfl) (Nat.le_of_ble_eq_true rfl) (fun r9 J_184 hq9 => ?_)
              obtain ⟨z_184, rfl, hz_184, rfl, rfl⟩ := hq9
              refine tz_istore (pc := 187) (L2 := [_, _, _, _, _, _, _, _]) dX12_termOf_187 (by decide) rfl ?_
              refine tz_aload_n (pc := 189) dX12_termOf_189 rfl rfl ?_
              refine tz_fR (pc := 190) dX12_termOf_190 fl_X12_13 r_164_1 ?_
              refine tz_aload_n (pc := 193) dX12_termOf_193 rfl rfl ?_
              refine tz_fI (pc := 194) (kz := 15) (v := b) dX12_termOf_194 fl_X12_71 i_164_15 rfl hM2 (fun r_194 => ?_)
              refine tz_iload (pc := 197) dX12_termOf_197 rfl ?_
              refine tz_iadd (pc := 199) (v := b + m) dX12_termOf_199 rfl ?_
              refine tz_iload_n (pc := 200) dX12_termOf_200 rfl rfl ?_
              refine tz_aS (pc := 201) (z := (b + m)) dX12_termOf_201 a_166 rfl (by omega) (by omega) ?_
              refine tz_aload_n (pc := 202) dX12_termOf_202 rfl rfl ?_
              refine tz_fR (pc := 203) dX12_termOf_203 fl_X12_16 r_164_2 ?_
              refine tz_iconst (pc := 206) dX12_termOf_206 ?_
              refine tz_aload_n (pc := 207) dX12_termOf_207 rfl rfl ?_
              refine tz_fI (pc := 208) (kz := 15) (v := b) dX12_termOf_208 fl_X12_71 i_164_15 rfl hM2 (fun r_208 => ?_)
              refine tz_iload (pc := 211) dX12_termOf_211 rfl ?_
              refine tz_iadd (pc := 213) (v := b + m) dX12_termOf_213 rfl ?_
              refine tz_imul (pc := 214) (v := 3 * (b + m)) dX12_termOf_214 rfl ?_
              refine tz_iload (pc := 215) dX12_termOf_215 rfl ?_
              refine tz_if_leF (pc := 217) (tgt := 224) (by decide) dX12_termOf_217 (by decide) (by decide) ?_
              refine tz_iload_n (pc := 220) dX12_termOf_220 rfl rfl ?_
              refine tz_goto (pc := 221) (tgt := 225) dX12_termOf_221 (by decide) ?_
              refine tz_aS (pc := 225) (z := (3 * (b + m))) dX12_termOf_225 a_167 rfl (by omega) (by omega) ?_
              refine tz_aload_n (pc := 226) dX12_termOf_226 rfl rfl ?_
              refine tz_fR (pc := 227) dX12_termOf_227 fl_X12_16 r_164_2 ?_
              refine tz_iconst (pc := 230) dX12_termOf_230 ?_
              refine tz_aload_n (pc := 231) dX12_termOf_231 rfl rfl ?_
              refine tz_fI (pc := 232) (kz := 15) (v := b) dX12_termOf_232 fl_X12_71 i_164_15 rfl hM2 (fun r_232 => ?_)
              refine tz_iload (pc := 235) dX12_termOf_235 rfl ?_
              refine tz_iadd (pc := 237) (v := b + m) dX12_termOf_237 rfl ?_
              refine tz_imul (pc := 238) (v := 3 * (b + m)) dX12_termOf_238 rfl ?_
              refine tz_iconst (pc := 239) dX12_termOf_239 ?_
              refine tz_iadd (pc := 240) (v := (3 * (b + m)) + 1) dX12_termOf_240 rfl ?_
              refine tz_iload (pc := 241) dX12_termOf_241 rfl ?_
              refine tz_iconst (pc := 243) dX12_termOf_243 ?_
              refine tz_icmp_leF (pc := 244) (tgt := 251) (by decide) dX12_termOf_244 (by decide) (by decide) (by decide) ?_
              refine tz_iload_n (pc := 247) dX12_termOf_247 rfl rfl ?_
              refine tz_goto (pc := 248) (tgt := 252) dX12_termOf_248 (by decide) ?_
              refine tz_aS (pc := 252) (z := ((3 * (b + m)) + 1)) dX12_termOf_252 a_167 rfl (by omega) (by omega) ?_
              refine tz_aload_n (pc := 253) dX12_termOf_253 rfl rfl ?_
              refine tz_fR (pc := 254) dX12_termOf_254 fl_X12_16 r_164_2 ?_
              refine tz_iconst (pc := 257) dX12_termOf_257 ?_
              refine tz_aload_n (pc := 258) dX12_termOf_258 rfl rfl ?_
              refine tz_fI (pc := 259) (kz := 15) (v := b) dX12_termOf_259 fl_X12_71 i_164_15 rfl hM2 (fun r_259 => ?_)
              refine tz_iload (pc := 262) dX12_termOf_262 rfl ?_
              refine tz_iadd (pc := 264) (v := b + m) dX12_termOf_264 rfl ?_
              refine tz_imul (pc := 265) (v := 3 * (b + m)) dX12_termOf_265 rfl ?_
              refine tz_iconst (pc := 266) dX12_termOf_266 ?_
              refine tz_iadd (pc := 267) (v := (3 * (b + m)) + 2) dX12_termOf_267 rfl ?_
              refine tz_iload (pc := 268) dX12_termOf_268 rfl ?_
              refine tz_iconst (pc := 270) dX12_termOf_270 ?_
              refine tz_icmp_leF (pc := 271) (tgt := 279) (by decide) dX12_termOf_271 (by decide) (by decide) (by decide) ?_
              refine tz_iload (pc := 274) dX12_termOf_274 rfl ?_
              refine tz_goto (pc := 276) (tgt := 280) dX12_termOf_276 (by decide) ?_
              refine tz_aS (pc := 280) (z := ((3 * (b + m)) + 2)) dX12_termOf_280 a_167 rfl (by omega) (by omega) ?_
              refine tz_aload_n (pc := 281) dX12_termOf_281 rfl rfl ?_
              refine tz_fR (pc := 282) dX12_termOf_282 fl_X12_19 r_164_3 ?_
              refine tz_aload_n (pc := 285) dX12_termOf_285 rfl rfl ?_
              refine tz_fI (pc := 286) (kz := 15) (v := b) dX12_termOf_286 fl_X12_71 i_164_15 rfl hM2 (fun r_286 => ?_)
              refine tz_iload (pc := 289) dX12_termOf_289 rfl ?_
              refine tz_iadd (pc := 291) (v := b + m) dX12_termOf_291 rfl ?_
              refine tz_iload (pc := 292) dX12_termOf_292 rfl ?_
              refine tz_aS (pc := 294) (z := (b + m)) dX12_termOf_294 a_168 rfl (by omega) (by omega) ?_
              refine tz_aload_n (pc := 295) dX12_termOf_295 rfl rfl ?_
              refine tz_fR (pc := 296) dX12_termOf_296 fl_X12_9 r_164_0 ?_
              refine tz_aload_n (pc := 299) dX12_termOf_299 rfl rfl ?_
              refine tz_fI (pc := 300) (kz := 16) (v := r) dX12_termOf_300 fl_X12_85 i_164_16 rfl hM3 (fun r_300 => ?_)
              refine tz_iconst (pc := 303) dX12_termOf_303 ?_
              refine tz_iadd (pc := 304) (v := r) dX12_termOf_304 (Int.add_zero _) ?_
              refine tz_dup2 (pc := 305) dX12_termOf_305 rfl rfl ?_
              refine tz_aL (pc := 306) (z := r) (v := m) dX12_termOf_306 a_165 rfl (by omega) hM5 (fun r_306 => ?_)
              refine tz_iconst (pc := 307) dX12_termOf_307 ?_
              refine tz_iadd (pc := 308) (v := m + 1) dX12_termOf_308 rfl ?_
              refine tz_aS (pc := 309) (z := r) dX12_termOf_309 a_165 rfl (by omega) (by omega) ?_
              refine tz_iload (pc := 310) dX12_termOf_310 rfl ?_
              exact tz_iret (pc := 312) (z := m) dX12_termOf_312 rfl (Nat.le_of_ble_eq_true rfl) (Nat.le_of_ble_eq_true rfl) ⟨Nat.le_refl _, Nat.le_add_right _ _⟩ ⟨_, rfl, (by omega), (by have hd9 : dpS (fun t => J 168 (b + t)) 3 x y w = z_143 := (by unfold dpS; simp only [show ¬ ((3 : Int) ≤ 0) by decide, show ¬ ((3 : Int) ≤ 1) by decide, show ¬ ((3 : Int) ≤ 2) by decide, if_true, if_false, gy_90, gy_116, gy_143]); exact Or.inr ⟨fun q a c => hn q a (by omega), Or.inl ⟨by rw [hd9]; omega, by omega, rfl, by rw [hd9]; rfl⟩⟩)⟩
            · refine tz_iconst (pc := 166) dX12_termOf_166 ?_
              refine tz_goto (pc := 167) (tgt := 171) dX12_termOf_167 (by decide) ?_
              refine tz_pZ (pc := 171) (kz := 21) dX12_termOf_171 fl_X12_92 i_164_21 rfl rfl (Or.inr rfl) ?_
              refine tz_aload_n (pc := 174) dX12_termOf_174 rfl rfl ?_
              refine tz_fI (pc := 175) (kz := 21) (v := 1) dX12_termOf_175 fl_X12_92 i_164_21 rfl rfl (fun _ => ?_)
              refine tz_if_eqF (pc := 178) (tgt := 183) (by decide) dX12_termOf_178 (by decide) (by decide) ?_
              refine tz_iconst (pc := 181) dX12_termOf_181 ?_
              exact tz_iret (pc := 182) (z := 0) dX12_termOf_182 rfl (Nat.le_of_ble_eq_true rfl) (Nat.le_of_ble_eq_true rfl) ⟨Nat.le_refl _, Nat.le_add_right _ _⟩ ⟨_, rfl, (by decide), (by have hd9 : dpS (fun t => J 168 (b + t)) 3 x y w = z_143 := (by unfold dpS; simp only [show ¬ ((3 : Int) ≤ 0) by decide, show ¬ ((3 : Int) ≤ 1) by decide, show ¬ ((3 : Int) ≤ 2) by decide, if_true, if_false, gy_90, gy_116, gy_143]); exact Or.inr ⟨fun q a c => hn q a (by omega), Or.inr ⟨by rw [hd9]; omega, rfl, rfl⟩⟩)⟩
        · refine tz_aload_n (pc := 42) dX12_termOf_42 rfl rfl ?_
          refine tz_iload (pc := 43) dX12_termOf_43 rfl ?_
          refine tz_iload_n (pc := 45) dX12_termOf_45 rfl rfl ?_
          refine tz_iload (pc := 46) dX12_termOf_46 rfl ?_
          refine tz_iload_n (pc := 48) dX12_termOf_48 rfl rfl ?_
          refine tz_iload_n (pc := 49) dX12_termOf_49 rfl rfl ?_
          refine tz_iload (pc := 50) dX12_termOf_50 rfl ?_
          refine tz_cV (pc := 52) (m_isThat hl n _ _ _ _ _ _ _ (by omega) (by omega) (by decide) (by omega) (by omega) (by omega) b r d s m hM (by omega)) vl_X12_100 dX12_termOf_52 o_164 rfl rfl (Nat.le_of_ble_eq_true rfl) ⟨(Nat.le_of_ble_eq_true rfl), (Nat.le_of_ble_eq_true rfl)⟩ rfl rfl (Nat.le_of_ble_eq_true rfl) (Nat.le_of_ble_eq_true rfl) (fun r9 J_52 hq9 => ?_)
          obtain ⟨zi9, rfl, hz_52, rfl, hi1, hi2⟩ := hq9
          refine tz_if_eq (pc := 55) (tgt := 61) dX12_termOf_55 (by decide) (by omega) (fun h_55 => ?_) (fun h_55 => ?_)
          · refine tz_iinc (pc := 61) (z := t + 1) (L2 := [_, _, _, _, _, _, _, _]) dX12_termOf_61 rfl (by omega) rfl ?_
            refine tz_goto (pc := 64) (tgt := 33) dX12_termOf_64 (by decide) ?_
            exact ih33 (t + 1) (by omega) (by omega) (fun q a c => (Decidable.em (q = t)).elim (fun e => by rw [e]; exact fun e9 => by have := hi2.mpr e9; omega) (fun e => hn q a (by omega)))
          · refine tz_iload (pc := 58) dX12_termOf_58 rfl ?_
            exact tz_iret (pc := 60) (z := t) dX12_termOf_60 rfl (Nat.le_of_ble_eq_true rfl) (Nat.le_of_ble_eq_true rfl) ⟨Nat.le_refl _, Nat.le_add_right _ _⟩ ⟨_, rfl, (by omega), Or.inl ⟨t, by omega, hi2.mp (by omega), rfl, rfl⟩⟩
    exact loop33 _ 0 (Nat.lt_succ_self _) (by omega) (fun q a c => by omega)
  · refine tz_iconst (pc := 7) dX12_termOf_7 ?_
    exact tz_iret (pc := 8) (z := 0) dX12_termOf_8 rfl (Nat.le_of_ble_eq_true rfl) (Nat.le_of_ble_eq_true rfl) ⟨Nat.le_refl _, Nat.le_add_right _ _⟩ ⟨_, rfl, (by decide), (absurd h21 (by omega))⟩

end
section
/-! ===== reading, as a function of the bytes ===== -/
noncomputable def cif {α : Type} (p : Prop) (a b : α) : α := @ite α p (Classical.propDecidable p) a b
theorem cif_pos {α : Type} {p : Prop} {a b : α} (h : p) : cif p a b = a := @if_pos p (Classical.propDecidable p) h α a b
theorem cif_neg {α : Type} {p : Prop} {a b : α} (h : ¬ p) : cif p a b = b := @if_neg p (Classical.propDecidable p) h α a b
noncomputable def dcB (p : Prop) : Bool := cif p true false
theorem dcB_t {p : Prop} (h : p) : dcB p = true := cif_pos h
theorem dcB_f {p : Prop} (h : ¬ p) : dcB p = false := cif_neg h
theorem fnF_cg {p q : Int → Bool} {N : Int} : ∀ (k : Nat) (a : Int), (∀ j, a ≤ j → j < N → p j = q j) → fnF p N k a = fnF q N k a
  | 0, _, _ => rfl
  | k + 1, a, h => by
    show (if a < N ∧ p a = true then fnF p N k (a + 1) else a) = if a < N ∧ q a = true then fnF q N k (a + 1) else a
    by_cases e : a < N
    · rw [h a (Int.le_refl _) e]
      split
      · exact fnF_cg k (a + 1) (fun j x y => h j (by omega) y)
      · rfl
    · rw [if_neg (fun w => e w.1), if_neg (fun w => e w.1)]
theorem fnF_rg {p : Int → Bool} {N : Int} : ∀ (k : Nat) (a : Int), a ≤ N → a ≤ fnF p N k a ∧ fnF p N k a ≤ N
  | 0, a, h => ⟨Int.le_refl _, h⟩
  | k + 1, a, h => by
    show a ≤ (if a < N ∧ p a = true then fnF p N k (a + 1) else a) ∧ (if a < N ∧ p a = true then fnF p N k (a + 1) else a) ≤ N
    split
    · next e =>
      have := fnF_rg (p := p) (N := N) k (a + 1) (by omega)
      omega
    · omega
theorem fnF_at {p : Int → Bool} {N : Int} : ∀ (k : Nat) (a : Int), a ≤ N → (N - a).toNat ≤ k → (∀ q, a ≤ q → q < fnF p N k a → p q = true) ∧ (fnF p N k a = N ∨ p (fnF p N k a) = false)
  | 0, a, h, h1 => ⟨fun q x y => by have : q < a := y; omega, Or.inl (by show a = N; omega)⟩
  | k + 1, a, h, h1 => by
    show (∀ q, a ≤ q → q < (if a < N ∧ p a = true then fnF p N k (a + 1) else a) → p q = true) ∧ ((if a < N ∧ p a = true then fnF p N k (a + 1) else a) = N ∨ p (if a < N ∧ p a = true then fnF p N k (a + 1) else a) = false)
    by_cases e : a < N ∧ p a = true
    · rw [if_pos e]
      have g := fnF_at (p := p) (N := N) k (a + 1) (by omega) (by omega)
      refine ⟨fun q x y => ?_, g.2⟩
      by_cases e2 : q = a
      · rw [e2]; exact e.2
      · exact g.1 q (by omega) y
    · rw [if_neg e]
      refine ⟨fun q x y => by omega, ?_⟩
      by_cases e2 : a < N
      · refine Or.inr ?_
        cases hp : p a with
        | true => exact absurd ⟨e2, hp⟩ e
        | false => rfl
      · exact Or.inl (by omega)
theorem fnB_rg {p : Int → Bool} {N a : Int} (h : a ≤ N) : a ≤ fnB p N a ∧ fnB p N a ≤ N := fnF_rg _ a h
theorem fnB_at {p : Int → Bool} {N a : Int} (h : a ≤ N) : (∀ q, a ≤ q → q < fnB p N a → p q = true) ∧ (fnB p N a = N ∨ p (fnB p N a) = false) := fnF_at _ a h (Nat.le_refl _)
theorem fnB_cg {p q : Int → Bool} {N a : Int} (h : ∀ j, a ≤ j → j < N → p j = q j) : fnB p N a = fnB q N a := fnF_cg _ a h
theorem tk_rg {f : Int → Int} {N a : Int} (ha : 0 ≤ a ∧ a ≤ N) : (a ≤ tkS f N a ∧ tkS f N a ≤ tkE f N a ∧ tkE f N a ≤ N) ∧ (tkK f N a = 0 ∨ (tkS f N a < N ∧ tkS f N a < tkE f N a)) := by
  have r1 : a ≤ tkS f N a ∧ tkS f N a ≤ N := fnB_rg ha.2
  by_cases q : tkS f N a < N
  · have e : tkS f N a + 1 ≤ tkE f N a ∧ tkE f N a ≤ N := by
      unfold tkE
      rw [if_pos q]
      split
      · exact fnB_rg (by omega)
      · omega
    exact ⟨by omega, Or.inr ⟨q, by omega⟩⟩
  · have e := tkK_0 (f := f) (N := N) (a := a) rfl q
    exact ⟨by omega, Or.inl e.1⟩
/-- the state of the reading: scalars in 0 (size, start, end, kind, fault, its place), bytes in 1; symbols, table and rows where the reference has those of a text -/
def pN (g : zJ) : zJ := zup (zup (zup g 0 1 (tkS (g 1) (g 0 0) (g 0 2))) 0 3 (tkK (g 1) (g 0 0) (g 0 2))) 0 2 (tkE (g 1) (g 0 0) (g 0 2))
def pF (g : zJ) (c : Int) : zJ := zup (zup g 0 4 c) 0 5 (g 0 1)
def pP (g : zJ) (c : Int) : zJ := if g 0 4 = 0 then (if g 0 3 = c then pN g else pF g 1) else g
def pU (g : zJ) (lo hi : Int) : zJ × Int := if g 0 4 = 0 then (if g 0 3 = 3 then (if g 0 2 = g 0 1 + 1 ∧ lo ≤ g 1 (g 0 1) - 48 ∧ g 1 (g 0 1) - 48 ≤ hi then (pN g, g 1 (g 0 1) - 48) else (pF g 2, lo)) else (pF g 1, lo)) else (g, lo)
def psy (g : zJ) (c : Int) : Int := fnB (fun k => decide (¬ g 169 (10 + k) = c)) (g 164 44) 0
def par (g : zJ) (h : Int) : Int := arh (fun k => g 170 (10 + k)) h
/-- the place of the term that is such a one, or how many there are -/
noncomputable def pfi (g : zJ) (h x y w : Int) : Int := fnB (fun q => dcB (¬ nmT g 800 (par g h) h x y w q)) (g 165 126) 0
def pdp (g : zJ) (h x y w : Int) : Int := dpS (fun t => g 168 (800 + t)) (par g h) x y w
/-- 99: there is no room (which no text comes to) -/
noncomputable def pMd (g : zJ) (h x y w : Int) : zJ × Int := if pfi g h x y w < g 165 126 then (g, pfi g h x y w) else if pdp g h x y w ≤ 6 ∧ g 165 126 < 400 then (chT g 800 126 (g 165 126) h (if 0 < par g h then x else -1) (if 1 < par g h then y else -1) (if 2 < par g h then w else -1) (pdp g h x y w), g 165 126) else (zup g 0 4 99, 0)
noncomputable def pV (g : zJ) : zJ × Int := if (pU (pN g) 0 7).1 0 4 = 0 then pMd (pU (pN g) 0 7).1 (-1 - (pU (pN g) 0 7).2) 0 0 0 else ((pU (pN g) 0 7).1, 0)
/-- the arguments of a term, one by one, and what it is then -/
def pA1 (T : zJ → Int → zJ × Int) (g : zJ) (A d : Int) : zJ × Int := if 0 < A then T (pP g 40) (d + 1) else (g, 0)
def pA2 (T : zJ → Int → zJ × Int) (g : zJ) (A d : Int) : zJ × Int := if 1 < A then T (pP (pA1 T g A d).1 44) (d + 1) else ((pA1 T g A d).1, 0)
def pA3 (T : zJ → Int → zJ × Int) (g : zJ) (A d : Int) : zJ × Int := if 2 < A then T (pP (pA2 T g A d).1 44) (d + 1) else ((pA2 T g A d).1, 0)
def pA4 (T : zJ → Int → zJ × Int) (g : zJ) (A d : Int) : zJ := if 0 < A then pP (pA3 T g A d).1 41 else (pA3 T g A d).1
noncomputable def pC (T : zJ → Int → zJ × Int) (g : zJ) (s d : Int) : zJ × Int := if (pA4 T g (g 170 (10 + s)) d) 0 4 = 0 then pMd (pA4 T g (g 170 (10 + s)) d) s (pA1 T g (g 170 (10 + s)) d).2 (pA2 T g (g 170 (10 + s)) d).2 (pA3 T g (g 170 (10 + s)) d).2 else (pA4 T g (g 170 (10 + s)) d, 0)
noncomputable def pT : Nat → zJ → Int → zJ × Int
  | 0, g, _ => (g, 0)
  | k + 1, g, d => if g 0 4 = 0 then (if g 0 3 = 63 then (if d ≤ 6 then pV g else (pF g 2, 0)) else if g 0 3 = 2 then (if d ≤ 6 ∧ g 0 2 = g 0 1 + 1 then (if psy g (g 1 (g 0 1)) < g 164 44 then pC (pT k) (pN g) (psy g (g 1 (g 0 1))) d else (pF g 3, 0)) else (pF g 2, 0)) else (pF g 1, 0)) else (g, 0)
/-- which word stands here -/
def pIs (g : zJ) (w : List Int) : Prop := g 0 3 = 2 ∧ mtB (g 1) (g 0 1) (g 0 2) w
def pSm (g : zJ) (c n w : Int) : zJ := zup (zup (zup (zup g 169 (10 + g 164 44) c) 170 (10 + g 164 44) n) 171 (10 + g 164 44) w) 164 44 (g 164 44 + 1)
def pNm (g : zJ) : zJ × Int := if g 0 3 = 2 then (if g 0 2 = g 0 1 + 1 then (if psy g (g 1 (g 0 1)) < g 164 44 then (pF g 4, 0) else (pN g, g 1 (g 0 1))) else (pF g 2, 0)) else (pF g 1, 0)
/-- the five clauses, up to the sign behind them -/
def pS1 (g : zJ) : zJ × Int := pNm (pN g)
def pS2 (g : zJ) : zJ × Int := pU (pS1 g).1 0 3
def pS3 (g : zJ) : zJ × Int := pU (pS2 g).1 1 9
def pSy (g : zJ) : zJ := if g 164 44 < 10 then (if (pS3 g).1 0 4 = 0 then pSm (pS3 g).1 (pS1 g).2 (pS2 g).2 (pS3 g).2 else (pS3 g).1) else pF g 2
noncomputable def pTo (g : zJ) : zJ := if g 0 4 = 0 then cif (pIs g [116, 111]) (pN g) (pF g 1) else g
noncomputable def pR1 (g : zJ) : zJ × Int := pT 8 (pN g) 1
noncomputable def pR2 (g : zJ) : zJ × Int := pT 8 (pTo (pR1 g).1) 1
noncomputable def pRu (g : zJ) : zJ := if g 165 135 < 8 then (if (pR2 g).1 0 4 = 0 then (if (pR2 g).1 0 3 = 59 then cif (mru (pR2 g).1 800 10 (pR1 g).2 (pR2 g).2) (zrl (pR2 g).1 126 (pR1 g).2 (pR2 g).2) (pF (pR2 g).1 5) else pF (pR2 g).1 1) else (pR2 g).1) else pF g 2
def pey (g : zJ) (t : Int) : Int := fnB (fun k => decide (¬ g 165 (153 + k) = t)) (g 165 152) 0
noncomputable def pEn (g : zJ) : zJ := if g 165 152 < 12 then (if (pR1 g).1 0 4 = 0 then (if (pR1 g).1 0 3 = 59 then (if pey (pR1 g).1 (pR1 g).2 < (pR1 g).1 165 152 then pF (pR1 g).1 5 else zen (pR1 g).1 126 (pR1 g).2) else pF (pR1 g).1 1) else (pR1 g).1) else pF g 2
def pO1 (g : zJ) : zJ × Int := pU (pN g) 0 9
def pRo (g : zJ) : zJ := if g 164 45 = 0 then (if (pO1 g).1 0 4 = 0 then zup (zup (pO1 g).1 165 165 (pO1 g).2) 164 45 1 else (pO1 g).1) else pF g 4
noncomputable def pCl (g : zJ) : zJ := cif (pIs g [115, 121, 109, 98, 111, 108]) (pSy g) (cif (pIs g [116, 101, 114, 109]) (pR1 g).1 (cif (pIs g [114, 117, 108, 101]) (pRu g) (cif (pIs g [101, 110, 116, 114, 121]) (pEn g) (cif (pIs g [114, 111, 111, 109]) (pRo g) (pF g 1)))))
noncomputable def pAl : Nat → zJ → zJ
  | 0, g => g
  | k + 1, g => if g 0 4 = 0 ∧ ¬ g 0 3 = 0 then pAl k (pP (pCl g) 59) else g
end
section
/-! ===== the reference follows the reading ===== -/
def EM (J g : zJ) : Prop := J 164 37 = g 0 0 ∧ J 173 = g 1 ∧ (J 164 44 = g 164 44 ∧ J 164 45 = g 164 45 ∧ J 164 21 = 0 ∧ J 164 20 = -1) ∧ (∀ k, 126 ≤ k → k < 189 → J 165 k = g 165 k) ∧ (∀ k, 800 ≤ k → k < 1200 → J 166 k = g 166 k ∧ J 168 k = g 168 k) ∧ (∀ k, 2400 ≤ k → k < 3600 → J 167 k = g 167 k) ∧ (∀ k, 10 ≤ k → k < 20 → J 169 k = g 169 k ∧ J 170 k = g 170 k ∧ J 171 k = g 171 k)
def RelM (J g : zJ) : Prop := J 164 43 = g 0 4 ∧ (¬ g 0 4 = 0 → J 164 20 = g 0 5) ∧ (g 0 4 = 0 → TKM J (g 1) (g 0 1) (g 0 3) (g 0 2) ∧ EM J g)
/-- the state of the reading is sound -/
def SI (g : zJ) : Prop := (0 ≤ g 0 0 ∧ g 0 0 ≤ 700) ∧ (0 ≤ g 0 1 ∧ g 0 1 ≤ g 0 2 ∧ g 0 2 ≤ g 0 0) ∧ (g 0 3 = 0 ∨ (g 0 1 < g 0 0 ∧ g 0 1 < g 0 2))
theorem pN0 {g : zJ} {k : Int} : pN g 0 k = if k = 2 then tkE (g 1) (g 0 0) (g 0 2) else if k = 3 then tkK (g 1) (g 0 0) (g 0 2) else if k = 1 then tkS (g 1) (g 0 0) (g 0 2) else g 0 k := rfl
theorem pN_c {g : zJ} {c : Nat} (h : ¬ c = 0) : pN g c = g c := by
  unfold pN
  rw [zup_nc h, zup_nc h, zup_nc h]
theorem SI.n {g : zJ} (h : SI g) : SI (pN g) := by
  have r := tk_rg (f := g 1) (N := g 0 0) (a := g 0 2) ⟨by have := h.2.1; omega, h.2.1.2.2⟩
  have h1 := h.2.1
  refine ⟨h.1, ?_, ?_⟩
  · rw [pN0, pN0, pN0, if_neg (by decide), if_neg (by decide), if_pos rfl, if_pos rfl, if_neg (by decide), if_neg (by decide), if_neg (by decide)]
    omega
  · rw [pN0, pN0, pN0, pN0, if_neg (by decide), if_pos rfl, if_neg (by decide), if_neg (by decide), if_pos rfl, if_neg (by decide), if_neg (by decide), if_neg (by decide), if_pos rfl]
    omega
theorem SI.f {g : zJ} (h : SI g) {c : Int} : SI (pF g c) := h
theorem EM.tok {J' J g : zJ} (h : EM J g) (r : RGo J' J) : EM J' (pN g) := by
  obtain ⟨h1, h2, ⟨h3, h4, h5⟩, h6, h7, h8, h9⟩ := h
  unfold EM
  rw [pN_c (c := 1) (by decide), pN_c (c := 164) (by decide), pN_c (c := 165) (by decide), pN_c (c := 166) (by decide), pN_c (c := 167) (by decide), pN_c (c := 168) (by decide), pN_c (c := 169) (by decide), pN_c (c := 170) (by decide), pN_c (c := 171) (by decide), r.1 173 rfl, r.1 165 rfl, r.1 166 rfl, r.1 167 rfl, r.1 168 rfl, r.1 169 rfl, r.1 170 rfl, r.1 171 rfl, r.2 37 rfl, r.2 44 rfl, r.2 45 rfl, r.2 21 rfl, r.2 20 rfl]
  exact ⟨h1, h2, ⟨h3, h4, h5⟩, h6, h7, h8, h9⟩
theorem RelM.go {J' J g : zJ} (h : RelM J g) (h0 : g 0 4 = 0) (r : RGo J' J) (t : TKM J' (J 173) (tkS (J 173) (J 164 37) (J 164 35)) (tkK (J 173) (J 164 37) (J 164 35)) (tkE (J 173) (J 164 37) (J 164 35))) : RelM J' (pN g) := by
  obtain ⟨h1, h2, h3⟩ := h
  obtain ⟨h4, h5⟩ := h3 h0
  rw [h5.2.1, h5.1, h4.2.1] at t
  refine ⟨by rw [r.2 43 rfl]; exact h1, fun q => absurd h0 q, fun _ => ⟨?_, h5.tok r⟩⟩
  rw [pN_c (c := 1) (by decide)]
  exact t
theorem RelM.fail {J g : zJ} {c : Int} (h : RelM J g) (h0 : g 0 4 = 0) (hc : ¬ c = 0) : RelM (zup (zup J 164 43 c) 164 20 (J 164 36)) (pF g c) := by
  obtain ⟨h1, h2, h3⟩ := h
  obtain ⟨h4, h5⟩ := h3 h0
  refine ⟨rfl, fun _ => ?_, fun q => absurd q hc⟩
  show J 164 36 = g 0 1
  exact h4.1
theorem TKM.rs {J f : zJ} {g : zJ} (h : TKM J (g 1) (g 0 1) (g 0 3) (g 0 2)) (hS : SI g) (hN : J 164 37 = g 0 0) : RSP J := by
  obtain ⟨h1, h2, h3⟩ := h
  unfold RSP RSz
  rw [hN, h1, h2]
  refine ⟨⟨hS.1, by have := hS.2.1; omega⟩, by have := hS.2.1; have := hS.1; omega, ?_⟩
  rcases h3 with q | q | q | q | q <;> omega
set_option maxHeartbeats 4000000 in
set_option maxRecDepth 100000 in
theorem x_wants {l : Launch} {G : tb_G} (hl : l.stackTraces = false) (n : Nat) (J : zJ) (x : Int) (y : Int) (hr_x : -2147483648 ≤ x ∧ x < 2147483648) (hr_y : -2147483648 ≤ y ∧ y < 2147483648)  (hy : ¬ y = 0) : tz_Ok l G M_X12_wants 0 0 0 [.ref 164, zi x, zi y] n J (zqi (fun z J' => (J 164 43 = 0 ∧ ¬ x = 0 ∧ z = 1 ∧ J = J') ∨ (J 164 43 = 0 ∧ x = 0 ∧ z = 0 ∧ J' = zup (zup J 164 43 y) 164 20 (J 164 36)) ∨ (¬ J 164 43 = 0 ∧ z = 0 ∧ J = J'))) zN := by
  refine tz_Ok.of hl (by decide +kernel) rfl (tb_c1 rfl) (Nat.le_of_ble_eq_true rfl) ?_
  show tz_At l G M_X12_wants (tb_rm 0 0 0) none (tb_ZM G 0 0 (zQ n 0 (zqi (fun z J' => (J 164 43 = 0 ∧ ¬ x = 0 ∧ z = 1 ∧ J = J') ∨ (J 164 43 = 0 ∧ x = 0 ∧ z = 0 ∧ J' = zup (zup J 164 43 y) 164 20 (J 164 36)) ∨ (¬ J 164 43 = 0 ∧ z = 0 ∧ J = J')))) (zX n 0 zN)) 0 0 n J 0 [some (.ref 164), some (zi x), some (zi y)] []
  refine tz_aload_n (pc := 0) dX12_wants_0 rfl rfl ?_
  refine tz_fI (pc := 1) (kz := 43) (v := (J 164 43)) dX12_wants_1 fl_X12_273 i_164_43 rfl rfl (fun r_1 => ?_)
  refine tz_if_ne (pc := 4) (tgt := 24) dX12_wants_4 (by decide) (by omega) (fun h_4 => ?_) (fun h_4 => ?_)
  · refine tz_aload_n (pc := 24) dX12_wants_24 rfl rfl ?_
    refine tz_fI (pc := 25) (kz := 43) (v := (J 164 43)) dX12_wants_25 fl_X12_273 i_164_43 rfl rfl (fun r_25 => ?_)
    refine tz_if_ne (pc := 28) (tgt := 35) dX12_wants_28 (by decide) (by omega) (fun h_28 => ?_) (fun h_28 => ?_)
    · refine tz_iconst (pc := 35) dX12_wants_35 ?_
      exact tz_zret (pc := 36) (z := 0) dX12_wants_36 rfl (Or.inl rfl) (Nat.le_of_ble_eq_true rfl) (Nat.le_of_ble_eq_true rfl) ⟨Nat.le_refl _, Nat.le_add_right _ _⟩ ⟨_, rfl, (by decide), (by first | exact Or.inl ⟨by omega, by omega, by omega, rfl⟩ | exact Or.inr (Or.inr ⟨by omega, by omega, rfl⟩))⟩
    · refine tz_iconst (pc := 31) dX12_wants_31 ?_
      refine tz_goto (pc := 32) (tgt := 36) dX12_wants_32 (by decide) ?_
      exact tz_zret (pc := 36) (z := 1) dX12_wants_36 rfl (Or.inr rfl) (Nat.le_of_ble_eq_true rfl) (Nat.le_of_ble_eq_true rfl) ⟨Nat.le_refl _, Nat.le_add_right _ _⟩ ⟨_, rfl, (by decide), (by first | exact Or.inl ⟨by omega, by omega, by omega, rfl⟩ | exact Or.inr (Or.inr ⟨by omega, by omega, rfl⟩))⟩
  · refine tz_iload_n (pc := 7) dX12_wants_7 rfl rfl ?_
    refine tz_if_ne (pc := 8) (tgt := 24) dX12_wants_8 (by decide) (by omega) (fun h_8 => ?_) (fun h_8 => ?_)
    · refine tz_aload_n (pc := 24) dX12_wants_24 rfl rfl ?_
      refine tz_fI (pc := 25) (kz := 43) (v := (J 164 43)) dX12_wants_25 fl_X12_273 i_164_43 rfl rfl (fun r_25 => ?_)
      refine tz_if_ne (pc := 28) (tgt := 35) dX12_wants_28 (by decide) (by omega) (fun h_28 => ?_) (fun h_28 => ?_)
      · refine tz_iconst (pc := 35) dX12_wants_35 ?_
        exact tz_zret (pc := 36) (z := 0) dX12_wants_36 rfl (Or.inl rfl) (Nat.le_of_ble_eq_true rfl) (Nat.le_of_ble_eq_true rfl) ⟨Nat.le_refl _, Nat.le_add_right _ _⟩ ⟨_, rfl, (by decide), (by first | exact Or.inl ⟨by omega, by omega, by omega, rfl⟩ | exact Or.inr (Or.inr ⟨by omega, by omega, rfl⟩))⟩
      · refine tz_iconst (pc := 31) dX12_wants_31 ?_
        refine tz_goto (pc := 32) (tgt := 36) dX12_wants_32 (by decide) ?_
        exact tz_zret (pc := 36) (z := 1) dX12_wants_36 rfl (Or.inr rfl) (Nat.le_of_ble_eq_true rfl) (Nat.le_of_ble_eq_true rfl) ⟨Nat.le_refl _, Nat.le_add_right _ _⟩ ⟨_, rfl, (by decide), (by first | exact Or.inl ⟨by omega, by omega, by omega, rfl⟩ | exact Or.inr (Or.inr ⟨by omega, by omega, rfl⟩))⟩
    · refine tz_aload_n (pc := 11) dX12_wants_11 rfl rfl ?_
      refine tz_iload_n (pc := 12) dX12_wants_12 rfl rfl ?_
      refine tz_pI (pc := 13) (kz := 43) dX12_wants_13 fl_X12_273 i_164_43 rfl rfl (by omega) ?_
      refine tz_aload_n (pc := 16) dX12_wants_16 rfl rfl ?_
      refine tz_aload_n (pc := 17) dX12_wants_17 rfl rfl ?_
      refine tz_fI (pc := 18) (kz := 36) (v := (J 164 36)) dX12_wants_18 fl_X12_246 i_164_36 rfl rfl (fun r_18 => ?_)
      refine tz_pI (pc := 21) (kz := 20) dX12_wants_21 fl_X12_37 i_164_20 rfl rfl (by omega) ?_
      refine tz_aload_n (pc := 24) dX12_wants_24 rfl rfl ?_
      refine tz_fI (pc := 25) (kz := 43) (v := y) dX12_wants_25 fl_X12_273 i_164_43 rfl rfl (fun r_25 => ?_)
      refine tz_if_ne (pc := 28) (tgt := 35) dX12_wants_28 (by decide) (by omega) (fun h_28 => ?_) (fun h_28 => ?_)
      · refine tz_iconst (pc := 35) dX12_wants_35 ?_
        exact tz_zret (pc := 36) (z := 0) dX12_wants_36 rfl (Or.inl rfl) (Nat.le_of_ble_eq_true rfl) (Nat.le_of_ble_eq_true rfl) ⟨Nat.le_refl _, Nat.le_add_right _ _⟩ ⟨_, rfl, (by decide), Or.inr (Or.inl ⟨by omega, by omega, by omega, rfl⟩)⟩
      · refine tz_iconst (pc := 31) dX12_wants_31 ?_
        refine tz_goto (pc := 32) (tgt := 36) dX12_wants_32 (by decide) ?_
        exact tz_zret (pc := 36) (z := 1) dX12_wants_36 rfl (Or.inr rfl) (Nat.le_of_ble_eq_true rfl) (Nat.le_of_ble_eq_true rfl) ⟨Nat.le_refl _, Nat.le_add_right _ _⟩ ⟨_, rfl, (by decide), Or.inr (Or.inl ⟨by omega, by omega, by omega, rfl⟩)⟩

theorem y_go {l : Launch} {G : tb_G} (hl : l.stackTraces = false) (n : Nat) (J : zJ) (g : zJ) (hR : RelM J g) (h0 : g 0 4 = 0) (hS : SI g) : tz_Ok l G M_X12_go 2 0 0 [.ref 164] n J (zqv (fun J' => RelM J' (pN g) ∧ RGw J' J ∧ (¬ J 164 38 = 0 → rmu J' < rmu J))) zN := by
  have hT := hR.2.2 h0
  have hP : RSP J := hT.1.rs (f := J) hS hT.2.1
  refine (x_go hl n J hP.1).mono (fun r J' _ ⟨h1, h2, h3⟩ => ⟨h1, ?_⟩) (fun _ _ _ h => h)
  have hr := hR.go h0 h2 h3
  have hT' := hr.2.2 h0
  have hP' : RSP J' := hT'.1.rs (f := J') hS.n hT'.2.1
  have e37 : J' 164 37 = J 164 37 := h2.2 37 rfl
  have e35 : J' 164 35 = tkE (J 173) (J 164 37) (J 164 35) := h3.2.1
  have e38 := h3.2.2
  have rg := tk_rg (f := J 173) (N := J 164 37) (a := J 164 35) ⟨hP.1.2.1, hP.1.2.2⟩
  have hm : rmu J' ≤ J 164 37 - J 164 35 := by
    unfold rmu
    rw [e37, e35]
    split
    · omega
    · next q => rcases e38 with w | w | w | w | w <;> omega
  exact ⟨hr, ⟨⟨h2.1, fun k a _ _ => h2.2 k a⟩, hP', fun q => (h2.2 43 rfl).symm.trans q, Int.le_trans hm rmu_ge⟩, fun q => Int.lt_of_le_of_lt hm (rmu_gt q)⟩
/-- wants: what it does by the reading -/
theorem y_wants {l : Launch} {G : tb_G} (hl : l.stackTraces = false) (n : Nat) (J : zJ) (x y : Int) (hr_x : -2147483648 ≤ x ∧ x < 2147483648) (hr_y : -2147483648 ≤ y ∧ y < 2147483648) (g : zJ) (hR : RelM J g) (hP : RSP J) (hy : ¬ y = 0) : tz_Ok l G M_X12_wants 0 0 0 [.ref 164, zi x, zi y] n J (zqi (fun z J' => RGw J' J ∧ ((g 0 4 = 0 ∧ ¬ x = 0 ∧ z = 1 ∧ J = J') ∨ (g 0 4 = 0 ∧ x = 0 ∧ z = 0 ∧ ¬ J' 164 43 = 0 ∧ RelM J' (pF g y)) ∨ (¬ g 0 4 = 0 ∧ z = 0 ∧ J = J')))) zN := by
  refine (x_wants hl n J x y hr_x hr_y hy).mono (fun r J' _ ⟨z, h1, h2, h3⟩ => ⟨z, h1, h2, ?_⟩) (fun _ _ _ h => h)
  rcases h3 with ⟨a, b, c, d⟩ | ⟨a, b, c, d⟩ | ⟨a, b, c⟩
  · subst d
    exact ⟨RGw.rf hP, Or.inl ⟨by rw [← hR.1]; exact a, b, c, rfl⟩⟩
  · subst d
    have h0 : g 0 4 = 0 := by rw [← hR.1]; exact a
    refine ⟨RGw.wb hP hy, Or.inr (Or.inl ⟨h0, b, c, ?_, hR.fail h0 hy⟩)⟩
    show ¬ zup J 164 43 y 164 43 = 0
    rw [zup_at]
    exact hy
  · subst c
    exact ⟨RGw.rf hP, Or.inr (Or.inr ⟨by rw [← hR.1]; exact a, b, rfl⟩)⟩
theorem TKM.sg {J g : zJ} {c : Int} (h : TKM J (g 1) (g 0 1) (g 0 3) (g 0 2)) (hc : c = 40 ∨ c = 41 ∨ c = 44 ∨ c = 59 ∨ c = 63) : J 164 42 = c ↔ g 0 3 = c := by
  obtain ⟨_, _, h3⟩ := h
  rcases h3 with q | q | q | q | q <;> omega
theorem TKM.so {J g : zJ} (h : TKM J (g 1) (g 0 1) (g 0 3) (g 0 2)) : (J 164 38 = 1 ↔ g 0 3 = 2) ∧ (J 164 38 = 2 ↔ g 0 3 = 3) ∧ (J 164 38 = 0 ↔ g 0 3 = 0) ∧ (g 0 3 = 2 → J 164 41 = g 0 2 - g 0 1) := by
  obtain ⟨_, _, h3⟩ := h
  rcases h3 with q | q | q | q | q <;> omega
theorem TKM.vl {J g : zJ} (h : TKM J (g 1) (g 0 1) (g 0 3) (g 0 2)) (h3 : g 0 3 = 3) : (g 0 2 = g 0 1 + 1 ∧ J 164 39 = g 1 (g 0 1) - 48) ∨ (g 0 1 + 1 < g 0 2 ∧ J 164 39 = 999) := by
  obtain ⟨_, _, h4⟩ := h
  rcases h4 with q | q | q | q | q
  · omega
  · omega
  · exact q.2.2.2.2.2
  · omega
  · omega
set_option maxHeartbeats 4000000 in
set_option maxRecDepth 100000 in
theorem y_sign {l : Launch} {G : tb_G} (hl : l.stackTraces = false) (n : Nat) (J : zJ) (x : Int) (hr_x : -2147483648 ≤ x ∧ x < 2147483648) (g : zJ) (hR : RelM J g) (hS : SI g) (hP : RSP J) (hx : x = 40 ∨ x = 41 ∨ x = 44 ∨ x = 59 ∨ x = 63) : tz_Ok l G M_X12_sign 3 0 0 [.ref 164, zi x] n J (zqv (fun J' => RGw J' J ∧ (J' 164 43 = 0 → rmu J' < rmu J) ∧ RelM J' (pP g x))) zN := by
  refine tz_Ok.of hl (by decide +kernel) rfl (tb_c1 rfl) (Nat.le_of_ble_eq_true rfl) ?_
  show tz_At l G M_X12_sign (tb_rm 3 0 0) none (tb_ZM G 0 0 (zQ n 0 (zqv (fun J' => RGw J' J ∧ (J' 164 43 = 0 → rmu J' < rmu J) ∧ RelM J' (pP g x)))) (zX n 0 zN)) 0 0 n J 0 [some (.ref 164), some (zi x)] []
  refine tz_aload_n (pc := 0) dX12_sign_0 rfl rfl ?_
  refine tz_fI (pc := 1) (kz := 43) (v := (J 164 43)) dX12_sign_1 fl_X12_273 i_164_43 rfl rfl (fun r_1 => ?_)
  refine tz_if_ne (pc := 4) (tgt := 32) dX12_sign_4 (by decide) (by omega) (fun h_4 => ?_) (fun h_4 => ?_)
  · exact tz_vret (pc := 32) dX12_sign_32 rfl (Nat.le_of_ble_eq_true rfl) (Nat.le_of_ble_eq_true rfl) ⟨Nat.le_refl _, Nat.le_add_right _ _⟩ ⟨rfl, ⟨RGw.rf hP, fun q9 => by omega, by unfold pP; rw [if_neg (by rw [← hR.1]; omega)]; exact hR⟩⟩
  · have h0 : g 0 4 = 0 := by rw [← hR.1]; omega
    have hT := hR.2.2 h0
    refine tz_aload_n (pc := 7) dX12_sign_7 rfl rfl ?_
    refine tz_aload_n (pc := 8) dX12_sign_8 rfl rfl ?_
    refine tz_fI (pc := 9) (kz := 42) (v := (J 164 42)) dX12_sign_9 fl_X12_258 i_164_42 rfl rfl (fun r_9 => ?_)
    refine tz_iload_n (pc := 12) dX12_sign_12 rfl rfl ?_
    refine tz_icmp_ne (pc := 13) (tgt := 20) dX12_sign_13 (by decide) (by omega) (by omega) (fun h_13 => ?_) (fun h_13 => ?_)
    · refine tz_iconst (pc := 20) dX12_sign_20 ?_
      refine tz_iconst (pc := 21) dX12_sign_21 ?_
      refine tz_cV (pc := 22) (y_wants hl n _ _ _ (by decide) (by decide) g hR hP (by decide)) vl_X12_276 dX12_sign_22 o_164 rfl rfl (Nat.le_of_ble_eq_true rfl) ⟨(Nat.le_of_ble_eq_true rfl), (Nat.le_of_ble_eq_true rfl)⟩ rfl rfl (Nat.le_of_ble_eq_true rfl) (Nat.le_of_ble_eq_true rfl) (fun r9 J_22 hq9 => ?_)
      obtain ⟨z_22, rfl, hz_22, w_22, o_22⟩ := hq9
      obtain ⟨rfl, v_22, r_22⟩ : z_22 = 0 ∧ ¬ J_22 164 43 = 0 ∧ RelM J_22 (pF g 1) := by rcases o_22 with q | q | q; exact absurd rfl q.2.1; exact ⟨q.2.2.1, q.2.2.2⟩; exact absurd h0 q.1
      refine tz_if_eqT (pc := 25) (tgt := 32) (by decide) dX12_sign_25 (by decide) (by decide) ?_
      exact tz_vret (pc := 32) dX12_sign_32 rfl (Nat.le_of_ble_eq_true rfl) (Nat.le_of_ble_eq_true rfl) ⟨Nat.le_refl _, Nat.le_add_right _ _⟩ ⟨rfl, ⟨w_22, fun q9 => absurd q9 v_22, by unfold pP; rw [if_pos h0, if_neg (by rw [← hT.1.sg hx]; omega)]; exact r_22⟩⟩
    · refine tz_iconst (pc := 16) dX12_sign_16 ?_
      refine tz_goto (pc := 17) (tgt := 21) dX12_sign_17 (by decide) ?_
      refine tz_iconst (pc := 21) dX12_sign_21 ?_
      refine tz_cV (pc := 22) (y_wants hl n _ _ _ (by decide) (by decide) g hR hP (by decide)) vl_X12_276 dX12_sign_22 o_164 rfl rfl (Nat.le_of_ble_eq_true rfl) ⟨(Nat.le_of_ble_eq_true rfl), (Nat.le_of_ble_eq_true rfl)⟩ rfl rfl (Nat.le_of_ble_eq_true rfl) (Nat.le_of_ble_eq_true rfl) (fun r9 J_22 hq9 => ?_)
      obtain ⟨z_22, rfl, hz_22, w_22, o_22⟩ := hq9
      obtain ⟨rfl, rfl⟩ : z_22 = 1 ∧ J = J_22 := by rcases o_22 with q | q | q; exact ⟨q.2.2.1, q.2.2.2⟩; exact absurd q.2.1 (by decide); exact absurd h0 q.1
      refine tz_if_eqF (pc := 25) (tgt := 32) (by decide) dX12_sign_25 (by decide) (by decide) ?_
      refine tz_aload_n (pc := 28) dX12_sign_28 rfl rfl ?_
      refine tz_cV (pc := 29) (y_go hl n _ g hR h0 hS) vl_X12_280 dX12_sign_29 o_164 rfl rfl (Nat.le_of_ble_eq_true rfl) ⟨(Nat.le_of_ble_eq_true rfl), (Nat.le_of_ble_eq_true rfl)⟩ rfl rfl (Nat.le_of_ble_eq_true rfl) (Nat.le_of_ble_eq_true rfl) (fun r9 J_29 hq9 => ?_)
      obtain ⟨rfl, r_29, w_29, u_29⟩ := hq9
      exact tz_vret (pc := 32) dX12_sign_32 rfl (Nat.le_of_ble_eq_true rfl) (Nat.le_of_ble_eq_true rfl) ⟨Nat.le_refl _, Nat.le_add_right _ _⟩ ⟨rfl, ⟨w_29, fun _ => u_29 (by have := hT.1.sg hx; have := hT.1.so; omega), by unfold pP; rw [if_pos h0, if_pos ((hT.1.sg hx).1 (by omega))]; exact r_29⟩⟩

set_option maxHeartbeats 4000000 in
set_option maxRecDepth 100000 in
theorem y_number {l : Launch} {G : tb_G} (hl : l.stackTraces = false) (n : Nat) (J : zJ) (a : Int) (b : Int) (hr_a : -2147483648 ≤ a ∧ a < 2147483648) (hr_b : -2147483648 ≤ b ∧ b < 2147483648) (g : zJ) (hR : RelM J g) (hS : SI g) (hP : RSP J) (hab : (a = 0 ∨ a = 1) ∧ a ≤ b ∧ b ≤ 9) : tz_Ok l G M_X12_number 3 0 0 [.ref 164, zi a, zi b] n J (zqi (fun z J' => RGw J' J ∧ (a ≤ z ∧ z ≤ b) ∧ RelM J' (pU g a b).1 ∧ ((pU g a b).1 0 4 = 0 → z = (pU g a b).2))) zN := by
  refine tz_Ok.of hl (by decide +kernel) rfl (tb_c1 rfl) (Nat.le_of_ble_eq_true rfl) ?_
  show tz_At l G M_X12_number (tb_rm 3 0 0) none (tb_ZM G 0 0 (zQ n 0 (zqi (fun z J' => RGw J' J ∧ (a ≤ z ∧ z ≤ b) ∧ RelM J' (pU g a b).1 ∧ ((pU g a b).1 0 4 = 0 → z = (pU g a b).2)))) (zX n 0 zN)) 0 0 n J 0 [some (.ref 164), some (zi a), some (zi b), none] []
  refine tz_aload_n (pc := 0) dX12_number_0 rfl rfl ?_
  refine tz_fI (pc := 1) (kz := 43) (v := (J 164 43)) dX12_number_1 fl_X12_273 i_164_43 rfl rfl (fun r_1 => ?_)
  refine tz_if_ne (pc := 4) (tgt := 45) dX12_number_4 (by decide) (by omega) (fun h_4 => ?_) (fun h_4 => ?_)
  · refine tz_iload_n (pc := 45) dX12_number_45 rfl rfl ?_
    exact tz_iret (pc := 46) (z := a) dX12_number_46 rfl (Nat.le_of_ble_eq_true rfl) (Nat.le_of_ble_eq_true rfl) ⟨Nat.le_refl _, Nat.le_add_right _ _⟩ ⟨_, rfl, (by omega), ⟨RGw.rf hP, by omega, by unfold pU; rw [if_neg (by rw [← hR.1]; omega)]; exact hR, fun q9 => absurd ((hR.1).trans (by unfold pU at q9; rw [if_neg (by rw [← hR.1]; omega)] at q9; exact q9)) (by omega)⟩⟩
  · have h0 : g 0 4 = 0 := by rw [← hR.1]; omega
    have hT := hR.2.2 h0
    have hso := hT.1.so
    refine tz_aload_n (pc := 7) dX12_number_7 rfl rfl ?_
    refine tz_aload_n (pc := 8) dX12_number_8 rfl rfl ?_
    refine tz_fI (pc := 9) (kz := 38) (v := (J 164 38)) dX12_number_9 fl_X12_261 i_164_38 rfl rfl (fun r_9 => ?_)
    refine tz_iconst (pc := 12) dX12_number_12 ?_
    refine tz_icmp_ne (pc := 13) (tgt := 20) dX12_number_13 (by decide) (by omega) (by decide) (fun h_13 => ?_) (fun h_13 => ?_)
    · refine tz_iconst (pc := 20) dX12_number_20 ?_
      refine tz_iconst (pc := 21) dX12_number_21 ?_
      refine tz_cV (pc := 22) (y_wants hl n _ _ _ (by decide) (by decide) g hR hP (by decide)) vl_X12_276 dX12_number_22 o_164 rfl rfl (Nat.le_of_ble_eq_true rfl) ⟨(Nat.le_of_ble_eq_true rfl), (Nat.le_of_ble_eq_true rfl)⟩ rfl rfl (Nat.le_of_ble_eq_true rfl) (Nat.le_of_ble_eq_true rfl) (fun r9 J_22 hq9 => ?_)
      obtain ⟨z_22, rfl, hz_22, w_22, o_22⟩ := hq9
      obtain ⟨rfl, v_22, r_22⟩ : z_22 = 0 ∧ ¬ J_22 164 43 = 0 ∧ RelM J_22 (pF g 1) := by rcases o_22 with q | q | q; exact absurd rfl q.2.1; exact ⟨q.2.2.1, q.2.2.2⟩; exact absurd h0 q.1
      refine tz_if_eqT (pc := 25) (tgt := 45) (by decide) dX12_number_25 (by decide) (by decide) ?_
      refine tz_iload_n (pc := 45) dX12_number_45 rfl rfl ?_
      exact tz_iret (pc := 46) (z := a) dX12_number_46 rfl (Nat.le_of_ble_eq_true rfl) (Nat.le_of_ble_eq_true rfl) ⟨Nat.le_refl _, Nat.le_add_right _ _⟩ ⟨_, rfl, (by omega), ⟨w_22, by omega, by rw [show (pU g a b).1 = pF g 1 from by unfold pU; rw [if_pos h0, if_neg (by have := hT.1.so; omega)]]; exact r_22, fun q9 => absurd (r_22.1.trans (show pF g 1 0 4 = 0 from by rw [show (pU g a b).1 = pF g 1 from by unfold pU; rw [if_pos h0, if_neg (by have := hT.1.so; omega)]] at q9; exact q9)) v_22⟩⟩
    · refine tz_iconst (pc := 16) dX12_number_16 ?_
      refine tz_goto (pc := 17) (tgt := 21) dX12_number_17 (by decide) ?_
      refine tz_iconst (pc := 21) dX12_number_21 ?_
      refine tz_cV (pc := 22) (y_wants hl n _ _ _ (by decide) (by decide) g hR hP (by decide)) vl_X12_276 dX12_number_22 o_164 rfl rfl (Nat.le_of_ble_eq_true rfl) ⟨(Nat.le_of_ble_eq_true rfl), (Nat.le_of_ble_eq_true rfl)⟩ rfl rfl (Nat.le_of_ble_eq_true rfl) (Nat.le_of_ble_eq_true rfl) (fun r9 J_22 hq9 => ?_)
      obtain ⟨z_22, rfl, hz_22, w_22, o_22⟩ := hq9
      obtain ⟨rfl, rfl⟩ : z_22 = 1 ∧ J = J_22 := by rcases o_22 with q | q | q; exact ⟨q.2.2.1, q.2.2.2⟩; exact absurd q.2.1 (by decide); exact absurd h0 q.1
      refine tz_if_eqF (pc := 25) (tgt := 45) (by decide) dX12_number_25 (by decide) (by decide) ?_
      have k3 : g 0 3 = 3 := by omega
      have vl := hT.1.vl k3
      have e2 : ¬ (g 0 2 = g 0 1 + 1 ∧ a ≤ g 1 (g 0 1) - 48 ∧ g 1 (g 0 1) - 48 ≤ b) → pU g a b = (pF g 2, a) := fun q => by unfold pU; rw [if_pos h0, if_pos k3, if_neg q]
      have e3 : (g 0 2 = g 0 1 + 1 ∧ a ≤ g 1 (g 0 1) - 48 ∧ g 1 (g 0 1) - 48 ≤ b) → pU g a b = (pN g, g 1 (g 0 1) - 48) := fun q => by unfold pU; rw [if_pos h0, if_pos k3, if_pos q]
      refine tz_aload_n (pc := 28) dX12_number_28 rfl rfl ?_
      refine tz_aload_n (pc := 29) dX12_number_29 rfl rfl ?_
      refine tz_fI (pc := 30) (kz := 39) (v := (J 164 39)) dX12_number_30 fl_X12_255 i_164_39 rfl rfl (fun r_30 => ?_)
      refine tz_iload_n (pc := 33) dX12_number_33 rfl rfl ?_
      refine tz_iload_n (pc := 34) dX12_number_34 rfl rfl ?_
      refine tz_cS (pc := 35) (m_within hl n _ _ _ _ (by omega) (by omega) (by omega)) sl_X12_283 dX12_number_35 rfl rfl (Nat.le_of_ble_eq_true rfl) ⟨(Nat.le_of_ble_eq_true rfl), (Nat.le_of_ble_eq_true rfl)⟩ rfl rfl (Nat.le_of_ble_eq_true rfl) (Nat.le_of_ble_eq_true rfl) (fun r9 J_35 hq9 => ?_)
      obtain ⟨zw9, rfl, hz_35, rfl, hw⟩ := hq9
      rcases hw with ⟨rfl, hw8⟩ | ⟨rfl, hw8⟩
      · refine tz_iconst (pc := 38) dX12_number_38 ?_
        refine tz_cV (pc := 39) (y_wants hl n _ _ _ (by decide) (by decide) g hR hP (by decide)) vl_X12_276 dX12_number_39 o_164 rfl rfl (Nat.le_of_ble_eq_true rfl) ⟨(Nat.le_of_ble_eq_true rfl), (Nat.le_of_ble_eq_true rfl)⟩ rfl rfl (Nat.le_of_ble_eq_true rfl) (Nat.le_of_ble_eq_true rfl) (fun r9 J_39 hq9 => ?_)
        obtain ⟨z_39, rfl, hz_39, w_39, o_39⟩ := hq9
        obtain ⟨rfl, rfl⟩ : z_39 = 1 ∧ J = J_39 := by rcases o_39 with q | q | q; exact ⟨q.2.2.1, q.2.2.2⟩; exact absurd q.2.1 (by decide); exact absurd h0 q.1
        refine tz_if_neT (pc := 42) (tgt := 47) (by decide) dX12_number_42 (by decide) (by decide) ?_
        refine tz_aload_n (pc := 47) dX12_number_47 rfl rfl ?_
        refine tz_fI (pc := 48) (kz := 39) (v := (J 164 39)) dX12_number_48 fl_X12_255 i_164_39 rfl rfl (fun r_48 => ?_)
        refine tz_istore_n (pc := 51) (L2 := [_, _, _, _]) dX12_number_51 rfl (by decide) rfl ?_
        refine tz_aload_n (pc := 52) dX12_number_52 rfl rfl ?_
        refine tz_cV (pc := 53) (y_go hl n _ g hR h0 hS) vl_X12_280 dX12_number_53 o_164 rfl rfl (Nat.le_of_ble_eq_true rfl) ⟨(Nat.le_of_ble_eq_true rfl), (Nat.le_of_ble_eq_true rfl)⟩ rfl rfl (Nat.le_of_ble_eq_true rfl) (Nat.le_of_ble_eq_true rfl) (fun r9 J_53 hq9 => ?_)
        obtain ⟨rfl, r_53, w_53, u_53⟩ := hq9
        refine tz_iload_n (pc := 56) dX12_number_56 rfl rfl ?_
        exact tz_iret (pc := 57) (z := (J 164 39)) dX12_number_57 rfl (Nat.le_of_ble_eq_true rfl) (Nat.le_of_ble_eq_true rfl) ⟨Nat.le_refl _, Nat.le_add_right _ _⟩ ⟨_, rfl, (by omega), ⟨w_53, by omega, by rw [e3 (by omega)]; exact r_53, fun _ => by rw [e3 (by omega)]; show _ = g 1 (g 0 1) - 48; omega⟩⟩
      · refine tz_iconst (pc := 38) dX12_number_38 ?_
        refine tz_cV (pc := 39) (y_wants hl n _ _ _ (by decide) (by decide) g hR hP (by decide)) vl_X12_276 dX12_number_39 o_164 rfl rfl (Nat.le_of_ble_eq_true rfl) ⟨(Nat.le_of_ble_eq_true rfl), (Nat.le_of_ble_eq_true rfl)⟩ rfl rfl (Nat.le_of_ble_eq_true rfl) (Nat.le_of_ble_eq_true rfl) (fun r9 J_39 hq9 => ?_)
        obtain ⟨z_39, rfl, hz_39, w_39, o_39⟩ := hq9
        obtain ⟨rfl, v_39, r_39⟩ : z_39 = 0 ∧ ¬ J_39 164 43 = 0 ∧ RelM J_39 (pF g 2) := by rcases o_39 with q | q | q; exact absurd rfl q.2.1; exact ⟨q.2.2.1, q.2.2.2⟩; exact absurd h0 q.1
        refine tz_if_neF (pc := 42) (tgt := 47) (by decide) dX12_number_42 (by decide) (by decide) ?_
        refine tz_iload_n (pc := 45) dX12_number_45 rfl rfl ?_
        exact tz_iret (pc := 46) (z := a) dX12_number_46 rfl (Nat.le_of_ble_eq_true rfl) (Nat.le_of_ble_eq_true rfl) ⟨Nat.le_refl _, Nat.le_add_right _ _⟩ ⟨_, rfl, (by omega), ⟨w_39, by omega, by rw [e2 (by omega)]; exact r_39, fun q9 => absurd (r_39.1.trans (by rw [e2 (by omega)] at q9; exact q9)) v_39⟩⟩

end
section
/-! ===== made, by the reading: the reference ===== -/
def RelX (J g : zJ) : Prop := g 0 4 = 99 ∨ RelM J g
theorem nmT_u {J : zJ} {b r d s m h x y w q q' : Int} (hM : MS J b r d s m) (hh : h < s) (hq : 0 ≤ q ∧ q < m) (hq' : 0 ≤ q' ∧ q' < m) (e : nmT J b (arh (fun k => J 170 (d + k)) h) h x y w q) (e' : nmT J b (arh (fun k => J 170 (d + k)) h) h x y w q') : q = q' := by
  have hA := arh_rg hM.2.2.2.2.2.1 hh
  refine hM.2.2.2.2.2.2.2.2 q q' hq.1 hq.2 hq'.1 hq'.2 ⟨e.1.trans e'.1.symm, fun i a c => ?_⟩
  have c9 : i < arh (fun k => J 170 (d + k)) (J 166 (b + q')) := c
  rw [e'.1] at c9
  have hi : i = 0 ∨ i = 1 ∨ i = 2 := by omega
  show J 167 (3 * (b + q) + i) = J 167 (3 * (b + q') + i)
  rcases hi with rfl | rfl | rfl
  · rw [e.2.1 c9, e'.2.1 c9]
  · rw [e.2.2.1 c9, e'.2.2.1 c9]
  · rw [e.2.2.2 c9, e'.2.2.2 c9]
theorem arh_cg {f g : Int → Int} {h : Int} (e : 0 ≤ h → f h = g h) : arh f h = arh g h := by
  unfold arh
  split
  · rfl
  · exact e (by omega)
theorem dpS_cg {f g : Int → Int} {A x y w : Int} (h0 : 0 < A → f x = g x) (h1 : 1 < A → f y = g y) (h2 : 2 < A → f w = g w) : dpS f A x y w = dpS g A x y w := by
  unfold dpS
  by_cases a : A ≤ 0
  · rw [if_pos a, if_pos a]
  · rw [if_neg a, if_neg a]
    by_cases b : A ≤ 1
    · rw [if_pos b, if_pos b, h0 (by omega)]
    · rw [if_neg b, if_neg b]
      by_cases c : A ≤ 2
      · rw [if_pos c, if_pos c, h0 (by omega), h1 (by omega)]
      · rw [if_neg c, if_neg c, h0 (by omega), h1 (by omega), h2 (by omega)]
theorem nmT_cg {J g : zJ} {b A h x y w q : Int} (e6 : J 166 (b + q) = g 166 (b + q)) (e7 : ∀ i, 0 ≤ i → i < 3 → J 167 (3 * (b + q) + i) = g 167 (3 * (b + q) + i)) : nmT J b A h x y w q ↔ nmT g b A h x y w q := by
  unfold nmT
  rw [e6, e7 0 (by decide) (by decide), e7 1 (by decide) (by decide), e7 2 (by decide) (by decide)]
theorem chT4 {J : zJ} {b r m h a0 a1 a2 dp : Int} (c : Nat) (hc : ¬ c = 165 ∧ ¬ c = 166 ∧ ¬ c = 167 ∧ ¬ c = 168) : chT J b r m h a0 a1 a2 dp c = J c := by
  unfold chT
  rw [zup_nc hc.1, zup_nc hc.2.2.2, zup_nc hc.2.2.1, zup_nc hc.2.2.1, zup_nc hc.2.2.1, zup_nc hc.2.1]
theorem chT_5 {J : zJ} {b r m h a0 a1 a2 dp k : Int} : chT J b r m h a0 a1 a2 dp 165 k = if k = r then m + 1 else J 165 k := rfl
theorem chT_6 {J : zJ} {b r m h a0 a1 a2 dp k : Int} : chT J b r m h a0 a1 a2 dp 166 k = if k = b + m then h else J 166 k := rfl
theorem chT_7 {J : zJ} {b r m h a0 a1 a2 dp k : Int} : chT J b r m h a0 a1 a2 dp 167 k = if k = 3 * (b + m) + 2 then a2 else if k = 3 * (b + m) + 1 then a1 else if k = 3 * (b + m) then a0 else J 167 k := rfl
theorem chT_8 {J : zJ} {b r m h a0 a1 a2 dp k : Int} : chT J b r m h a0 a1 a2 dp 168 k = if k = b + m then dp else J 168 k := rfl
theorem RelM.made {J' J g : zJ} {s m A h x y w z : Int} (hR : RelM J g) (h0 : g 0 4 = 0) (hM : MS J 800 126 10 s m) (hA : arh (fun k => J 170 (10 + k)) h = A) (hh : -8 ≤ h ∧ h < s) (hx : (0 < A → 0 ≤ x ∧ x < m) ∧ (1 < A → 0 ≤ y ∧ y < m) ∧ (2 < A → 0 ≤ w ∧ w < m)) (t : tmX J J' 800 126 m A h x y w z) : RelX J' (pMd g h x y w).1 ∧ ((pMd g h x y w).1 0 4 = 0 → z = (pMd g h x y w).2) := by
  have hT := hM.told
  obtain ⟨r1, r2, r3⟩ := id hR
  obtain ⟨k1, e1, e2, ⟨e3, e4, e5⟩, e6, e7, e8, e9⟩ := r3 h0
  have hm : g 165 126 = m := (e6 126 (by decide) (by decide)).symm.trans hM.2.2.2.2.1
  have hp : par g h = A := by
    rw [← hA]
    exact arh_cg (fun q => ((e9 (10 + h) (by omega) (by omega)).2.1).symm)
  have hn : ∀ q, 0 ≤ q → q < m → (nmT J 800 A h x y w q ↔ nmT g 800 A h x y w q) := fun q a c => nmT_cg (e7 _ (by omega) (by omega)).1 (fun i u v => e8 _ (by omega) (by omega))
  have hd : pdp g h x y w = dpS (fun t => J 168 (800 + t)) A x y w := by
    unfold pdp
    rw [hp]
    exact dpS_cg (fun q => ((e7 _ (by have := hx.1 q; omega) (by have := hx.1 q; omega)).2).symm) (fun q => ((e7 _ (by have := hx.2.1 q; omega) (by have := hx.2.1 q; omega)).2).symm) (fun q => ((e7 _ (by have := hx.2.2 q; omega) (by have := hx.2.2 q; omega)).2).symm)
  rcases t with ⟨q, hq, t1, t2, t3⟩ | ⟨t1, t2⟩
  · have hf : pfi g h x y w = q := by
      unfold pfi
      rw [hm, hp]
      refine fnB_eq hq.1 (by omega) (fun j a c => dcB_t (fun e => ?_)) (Or.inr (dcB_f (fun e => e ((hn q hq.1 hq.2).1 t1))))
      have u := (hn j a (by omega)).2 e
      subst hA
      have := nmT_u hM hh.2 ⟨a, by omega⟩ hq u t1
      omega
    have e : pMd g h x y w = (g, q) := by
      unfold pMd
      rw [hf, hm, if_pos hq.2]
    rw [e]
    subst t3
    exact ⟨Or.inr hR, fun _ => t2⟩
  · have hf : pfi g h x y w = m := by
      unfold pfi
      rw [hm, hp]
      exact fnB_eq hT.2.1.1 (Int.le_refl _) (fun j a c => dcB_t (fun e => t1 j a c ((hn j a c).2 e))) (Or.inl rfl)
    rcases t2 with ⟨u1, u2, u3, u4⟩ | ⟨u1, u2, u3⟩
    · have e : pMd g h x y w = (chT g 800 126 m h (if 0 < A then x else -1) (if 1 < A then y else -1) (if 2 < A then w else -1) (dpS (fun t => J 168 (800 + t)) A x y w), m) := by
        unfold pMd
        rw [hf, hm, if_neg (by omega), hd, if_pos ⟨u1, u2⟩, hp]
      rw [e]
      refine ⟨Or.inr ?_, fun _ => u3⟩
      have c0 : ∀ k, ¬ k = 21 → J' 164 k = J 164 k := fun k q => by rw [u4, chT4 164 (by decide)]; exact zup_ne q
      have cc : ∀ c, ¬ c = 164 → (¬ c = 165 ∧ ¬ c = 166 ∧ ¬ c = 167 ∧ ¬ c = 168) → J' c = J c := fun c q q2 => by rw [u4, chT4 c q2]; exact zup_nc q
      have g0 := fun c q => chT4 (J := g) (b := 800) (r := 126) (m := m) (h := h) (a0 := if 0 < A then x else -1) (a1 := if 1 < A then y else -1) (a2 := if 2 < A then w else -1) (dp := dpS (fun t => J 168 (800 + t)) A x y w) c q
      show RelM J' (chT g 800 126 m h (if 0 < A then x else -1) (if 1 < A then y else -1) (if 2 < A then w else -1) (dpS (fun t => J 168 (800 + t)) A x y w))
      refine ⟨?_, ?_, ?_⟩
      · rw [c0 43 (by decide), g0 0 (by decide)]; exact r1
      · rw [c0 20 (by decide), g0 0 (by decide)]; exact r2
      · rw [g0 0 (by decide), g0 1 (by decide)]
        intro _
        refine ⟨?_, ?_⟩
        · unfold TKM
          rw [c0 36 (by decide), c0 35 (by decide), c0 38 (by decide), c0 42 (by decide), c0 41 (by decide), c0 40 (by decide), c0 39 (by decide)]
          exact k1
        · unfold EM
          rw [g0 0 (by decide), g0 1 (by decide), g0 164 (by decide), g0 169 (by decide), g0 170 (by decide), g0 171 (by decide), c0 37 (by decide), c0 44 (by decide), c0 45 (by decide), cc 173 (by decide) (by decide), cc 169 (by decide) (by decide), cc 170 (by decide) (by decide), cc 171 (by decide) (by decide)]
          refine ⟨e1, e2, ⟨e3, e4, by rw [u4, chT4 164 (by decide)]; exact zup_at, by rw [c0 20 (by decide)]; exact e5.2⟩, fun k a c => ?_, fun k a c => ⟨?_, ?_⟩, fun k a c => ?_, e9⟩
          · rw [u4, chT_5, chT_5]
            split
            · rfl
            · exact e6 k a c
          · rw [u4, chT_6, chT_6]
            split
            · rfl
            · exact (e7 k a c).1
          · rw [u4, chT_8, chT_8]
            split
            · rfl
            · exact (e7 k a c).2
          · rw [u4, chT_7, chT_7]
            split
            · rfl
            · split
              · rfl
              · split
                · rfl
                · exact e8 k a c
    · have e : pMd g h x y w = (zup g 0 4 99, 0) := by
        unfold pMd
        rw [hf, hm, if_neg (by omega), hd, if_neg (by omega)]
      rw [e]
      refine ⟨Or.inl rfl, fun q => ?_⟩
      have q9 : (99 : Int) = 0 := q
      omega
end
section
/-! ===== terms of a text: the reference follows the reading ===== -/
/-- the answer is the reading's, where nothing is at fault -/
def VQ (z : Int) (p : zJ × Int) : Prop := p.1 0 4 = 0 → z = p.2
theorem pP_f {g : zJ} {c : Int} (h : ¬ g 0 4 = 0) : pP g c = g := by unfold pP; rw [if_neg h]
theorem pU_f {g : zJ} {a b : Int} (h : ¬ g 0 4 = 0) : pU g a b = (g, a) := by unfold pU; rw [if_neg h]
theorem pT_s {k : Nat} {g : zJ} {d : Int} : pT (k + 1) g d = if g 0 4 = 0 then (if g 0 3 = 63 then (if d ≤ 6 then pV g else (pF g 2, 0)) else if g 0 3 = 2 then (if d ≤ 6 ∧ g 0 2 = g 0 1 + 1 then (if psy g (g 1 (g 0 1)) < g 164 44 then pC (pT k) (pN g) (psy g (g 1 (g 0 1))) d else (pF g 3, 0)) else (pF g 2, 0)) else (pF g 1, 0)) else (g, 0) := rfl
theorem pT_f {k : Nat} {g : zJ} {d : Int} (h : ¬ g 0 4 = 0) : pT k g d = (g, 0) := by
  cases k with
  | zero => rfl
  | succ k => rw [pT_s, if_neg h]
theorem SI.p {g : zJ} (h : SI g) {c : Int} : SI (pP g c) := by
  unfold pP
  split
  · split
    · exact h.n
    · exact h.f
  · exact h
theorem SI.u {g : zJ} (h : SI g) {a b : Int} : SI (pU g a b).1 := by
  unfold pU
  split
  · split
    · split
      · exact h.n
      · exact h.f
    · exact h.f
  · exact h
theorem SI.m {g : zJ} (h : SI g) {a x y w : Int} : SI (pMd g a x y w).1 := by
  unfold pMd
  split
  · exact h
  · split
    · exact h
    · exact h
theorem SI.a1 {T : zJ → Int → zJ × Int} (hT : ∀ g d, SI g → SI (T g d).1) {g : zJ} (h : SI g) {A d : Int} : SI (pA1 T g A d).1 := by
  unfold pA1
  split
  · exact hT _ _ h.p
  · exact h
theorem SI.a2 {T : zJ → Int → zJ × Int} (hT : ∀ g d, SI g → SI (T g d).1) {g : zJ} (h : SI g) {A d : Int} : SI (pA2 T g A d).1 := by
  unfold pA2
  split
  · exact hT _ _ (SI.a1 hT h).p
  · exact SI.a1 hT h
theorem SI.a3 {T : zJ → Int → zJ × Int} (hT : ∀ g d, SI g → SI (T g d).1) {g : zJ} (h : SI g) {A d : Int} : SI (pA3 T g A d).1 := by
  unfold pA3
  split
  · exact hT _ _ (SI.a2 hT h).p
  · exact SI.a2 hT h
theorem SI.a4 {T : zJ → Int → zJ × Int} (hT : ∀ g d, SI g → SI (T g d).1) {g : zJ} (h : SI g) {A d : Int} : SI (pA4 T g A d) := by
  unfold pA4
  split
  · exact (SI.a3 hT h).p
  · exact SI.a3 hT h
theorem SI.c {T : zJ → Int → zJ × Int} (hT : ∀ g d, SI g → SI (T g d).1) {g : zJ} (h : SI g) {s d : Int} : SI (pC T g s d).1 := by
  unfold pC
  split
  · exact (SI.a4 hT h).m
  · exact SI.a4 hT h
theorem SI.v {g : zJ} (h : SI g) : SI (pV g).1 := by
  unfold pV
  split
  · exact h.n.u.m
  · exact h.n.u
theorem SI.t : ∀ (k : Nat) (g : zJ) (d : Int), SI g → SI (pT k g d).1
  | 0, g, d, h => h
  | k + 1, g, d, h => by
    rw [pT_s]
    split
    · split
      · split
        · exact h.v
        · exact h.f
      · split
        · split
          · split
            · exact SI.c (SI.t k) h.n
            · exact h.f
          · exact h.f
        · exact h.f
    · exact h
theorem RelX.bad {J g : zJ} (h : RelX J g) (h0 : J 164 43 = 0) : g 0 4 = 99 ∨ (g 0 4 = 0 ∧ RelM J g) := h.imp id (fun q => ⟨by rw [← q.1]; exact h0, q⟩)
theorem RelX.no {J g : zJ} (h : RelX J g) (h0 : ¬ J 164 43 = 0) : ¬ g 0 4 = 0 := by
  rcases h with q | q
  · omega
  · rw [← q.1]; exact h0
theorem z_sign {l : Launch} {G : tb_G} (hl : l.stackTraces = false) (n : Nat) (J : zJ) (x : Int) (hr_x : -2147483648 ≤ x ∧ x < 2147483648) (g : zJ) (hR : RelX J g) (hS : SI g) (hP : RSP J) (hx : x = 40 ∨ x = 41 ∨ x = 44 ∨ x = 59 ∨ x = 63) : tz_Ok l G M_X12_sign 3 0 0 [.ref 164, zi x] n J (zqv (fun J' => RGw J' J ∧ (J' 164 43 = 0 → rmu J' < rmu J) ∧ RelX J' (pP g x))) zN := by
  by_cases h : g 0 4 = 99
  · exact (m_sign hl n J x hr_x hP (by omega)).mono (fun r J' _ ⟨a, b, c⟩ => ⟨a, b, c, Or.inl (by rw [pP_f (by omega)]; exact h)⟩) (fun _ _ _ h => h)
  · exact (y_sign hl n J x hr_x g (hR.resolve_left h) hS hP hx).mono (fun r J' _ ⟨a, b, c, d⟩ => ⟨a, b, c, Or.inr d⟩) (fun _ _ _ h => h)
theorem z_number {l : Launch} {G : tb_G} (hl : l.stackTraces = false) (n : Nat) (J : zJ) (a b : Int) (hr_a : -2147483648 ≤ a ∧ a < 2147483648) (hr_b : -2147483648 ≤ b ∧ b < 2147483648) (g : zJ) (hR : RelX J g) (hS : SI g) (hP : RSP J) (hab : (a = 0 ∨ a = 1) ∧ a ≤ b ∧ b ≤ 9) : tz_Ok l G M_X12_number 3 0 0 [.ref 164, zi a, zi b] n J (zqi (fun z J' => RGw J' J ∧ (a ≤ z ∧ z ≤ b) ∧ RelX J' (pU g a b).1 ∧ ((pU g a b).1 0 4 = 0 → z = (pU g a b).2))) zN := by
  by_cases h : g 0 4 = 99
  · exact (m_number hl n J a b hr_a hr_b hP hab.2.1).mono (fun r J' _ ⟨z, p, q, c, d⟩ => ⟨z, p, q, c, d, Or.inl (by rw [pU_f (by omega)]; exact h), fun e => by rw [pU_f (by omega)] at e; exact absurd e (by show ¬ g 0 4 = 0; omega)⟩) (fun _ _ _ h => h)
  · exact (y_number hl n J a b hr_a hr_b g (hR.resolve_left h) hS hP hab).mono (fun r J' _ ⟨z, p, q, c, d, e, f⟩ => ⟨z, p, q, c, d, Or.inr e, f⟩) (fun _ _ _ h => h)
theorem tmX.mg {J' J : zJ} {b r d s m A h x y w z : Int} (hM : MS J b r d s m) (hA : arh (fun k => J 170 (d + k)) h = A) (hh : -8 ≤ h ∧ h < s) (h21 : J 164 21 = 0) (hx : (0 < A → 0 ≤ x ∧ x < m) ∧ (1 < A → 0 ≤ y ∧ y < m) ∧ (2 < A → 0 ≤ w ∧ w < m)) (t : tmX J J' b r m A h x y w z) : ∃ m', MG [] [] (fun _ => false) J' J b r d s m m' ∧ 0 ≤ z ∧ z < m' := by
  have hT := hM.told
  have hA3 : 0 ≤ A ∧ A ≤ 3 := hA ▸ arh_rg hM.2.2.2.2.2.1 hh.2
  have hdx : 0 < A → 1 ≤ J 168 (b + x) ∧ J 168 (b + x) ≤ 6 := fun q => (hM.ar (hx.1 q)).2.2.1
  have hdy : 1 < A → 1 ≤ J 168 (b + y) ∧ J 168 (b + y) ≤ 6 := fun q => (hM.ar (hx.2.1 q)).2.2.1
  have hdw : 2 < A → 1 ≤ J 168 (b + w) ∧ J 168 (b + w) ≤ 6 := fun q => (hM.ar (hx.2.2 q)).2.2.1
  have m1 := zmax_le 1 (J 168 (b + x) + 1)
  have m2 := zmax_le (zmax 1 (J 168 (b + x) + 1)) (J 168 (b + y) + 1)
  have m3 := zmax_le (zmax (zmax 1 (J 168 (b + x) + 1)) (J 168 (b + y) + 1)) (J 168 (b + w) + 1)
  have hd : (1 ≤ dpS (fun t => J 168 (b + t)) A x y w ∧ (0 < A → J 168 (b + x) < dpS (fun t => J 168 (b + t)) A x y w) ∧ (1 < A → J 168 (b + y) < dpS (fun t => J 168 (b + t)) A x y w) ∧ (2 < A → J 168 (b + w) < dpS (fun t => J 168 (b + t)) A x y w)) ∧ (dpS (fun t => J 168 (b + t)) A x y w = 1 ∨ (0 < A ∧ dpS (fun t => J 168 (b + t)) A x y w = J 168 (b + x) + 1) ∨ (1 < A ∧ dpS (fun t => J 168 (b + t)) A x y w = J 168 (b + y) + 1) ∨ (2 < A ∧ dpS (fun t => J 168 (b + t)) A x y w = J 168 (b + w) + 1)) := by
    unfold dpS
    dsimp only
    by_cases a0 : A ≤ 0
    · rw [if_pos a0]; omega
    · rw [if_neg a0]
      by_cases a1 : A ≤ 1
      · rw [if_pos a1]; omega
      · rw [if_neg a1]
        by_cases a2 : A ≤ 2
        · rw [if_pos a2]; omega
        · rw [if_neg a2]; omega
  rcases t with ⟨q, hq, t1, t2, t3⟩ | ⟨t1, ⟨u1, u2, u3, u4⟩ | ⟨u1, u2, u3⟩⟩
  · subst t3
    exact ⟨m, MG.rf hM, by omega⟩
  · refine ⟨m + 1, ?_, by omega⟩
    rw [u4]
    exact hM.push (A := A) (x := x) (y := y) (w := w) u2 hh hA hA3 (fun q => ⟨by rw [if_pos q], hx.1 q, hd.1.2.1 q⟩) (fun q => ⟨by rw [if_pos q], hx.2.1 q, hd.1.2.2.1 q⟩) (fun q => ⟨by rw [if_pos q], hx.2.2 q, hd.1.2.2.2 q⟩) t1 ⟨hd.1.1, u1⟩ hd.2 h21
  · refine ⟨m, ?_, ?_⟩
    · rw [u3]
      exact (MG.rf hM).full (fun q => absurd q (by decide))
    · have : 0 < m := by
        rcases u1 with q | q
        · have : 0 < A := by
            rcases Int.lt_or_le 0 A with e | e
            · exact e
            · exfalso
              have : dpS (fun t => J 168 (b + t)) A x y w = 1 := by unfold dpS; rw [if_pos e]
              omega
          have := hx.1 this
          omega
        · omega
      omega
theorem z_tm0 {l : Launch} {G : tb_G} (hl : l.stackTraces = false) (n : Nat) (J : zJ) (h x y w : Int) (hr_h : -2147483648 ≤ h ∧ h < 2147483648) (hr_x : -2147483648 ≤ x ∧ x < 2147483648) (hr_y : -2147483648 ≤ y ∧ y < 2147483648) (hr_w : -2147483648 ≤ w ∧ w < 2147483648) (s m : Int) (g : zJ) (hM : MS J 800 126 10 s m) (hh : -8 ≤ h ∧ h < s) (hk : 0 ≤ h ∧ J 170 (10 + h) = 0) (hu : J 164 21 = 0 ∨ 0 < m) (hg : (0 < (0 : Int) → 0 ≤ x ∧ x < m) ∧ (1 < (0 : Int) → 0 ≤ y ∧ y < m) ∧ (2 < (0 : Int) → 0 ≤ w ∧ w < m)) (h43 : J 164 43 = 0) (hR : RelX J g) : tz_Ok l G M_X12_termOf 2 0 0 [.ref 164, zi h, zi x, zi y, zi w] n J (zqi (fun z J' => (∃ m', MG [] [] (fun _ => false) J' J 800 126 10 s m m' ∧ 0 ≤ z ∧ z < m') ∧ RelX J' (if g 0 4 = 0 then pMd g h x y w else (g, 0)).1 ∧ ((if g 0 4 = 0 then pMd g h x y w else (g, 0)).1 0 4 = 0 → z = (if g 0 4 = 0 then pMd g h x y w else (g, 0)).2))) zN := by
  rcases hR.bad h43 with q | ⟨q, hR⟩
  · exact (m_tu0 hl n J h x y w hr_h hr_x hr_y hr_w 800 126 10 s m hM hh hk hu hg).mono (fun r J' _ ⟨z, a, b, c⟩ => ⟨z, a, b, c, by rw [if_neg (by omega)]; exact Or.inl q, by rw [if_neg (by omega)]; intro e; exact absurd e (by show ¬ g 0 4 = 0; omega)⟩) (fun _ _ _ h => h)
  · have h21 : J 164 21 = 0 := (hR.2.2 q).2.2.2.1.2.2.1
    have hA : arh (fun k => J 170 (10 + k)) h = 0 := by rw [arh_pos hk.1]; exact hk.2
    exact (x_tm0 hl n J h x y w hr_h hr_x hr_y hr_w 800 126 10 s m hM hh hk h21 hg).mono (fun r J' _ ⟨z, a, b, c⟩ => ⟨z, a, b, c.mg hM hA hh h21 hg, by rw [if_pos q]; exact (hR.made q hM hA hh hg c).1, by rw [if_pos q]; exact (hR.made q hM hA hh hg c).2⟩) (fun _ _ _ h => h)
theorem z_tm1 {l : Launch} {G : tb_G} (hl : l.stackTraces = false) (n : Nat) (J : zJ) (h x y w : Int) (hr_h : -2147483648 ≤ h ∧ h < 2147483648) (hr_x : -2147483648 ≤ x ∧ x < 2147483648) (hr_y : -2147483648 ≤ y ∧ y < 2147483648) (hr_w : -2147483648 ≤ w ∧ w < 2147483648) (s m : Int) (g : zJ) (hM : MS J 800 126 10 s m) (hh : -8 ≤ h ∧ h < s) (hk : 0 ≤ h ∧ J 170 (10 + h) = 1) (hu : J 164 21 = 0 ∨ 0 < m) (hg : (0 < (1 : Int) → 0 ≤ x ∧ x < m) ∧ (1 < (1 : Int) → 0 ≤ y ∧ y < m) ∧ (2 < (1 : Int) → 0 ≤ w ∧ w < m)) (h43 : J 164 43 = 0) (hR : RelX J g) : tz_Ok l G M_X12_termOf 2 0 0 [.ref 164, zi h, zi x, zi y, zi w] n J (zqi (fun z J' => (∃ m', MG [] [] (fun _ => false) J' J 800 126 10 s m m' ∧ 0 ≤ z ∧ z < m') ∧ RelX J' (if g 0 4 = 0 then pMd g h x y w else (g, 0)).1 ∧ ((if g 0 4 = 0 then pMd g h x y w else (g, 0)).1 0 4 = 0 → z = (if g 0 4 = 0 then pMd g h x y w else (g, 0)).2))) zN := by
  rcases hR.bad h43 with q | ⟨q, hR⟩
  · exact (m_tu1 hl n J h x y w hr_h hr_x hr_y hr_w 800 126 10 s m hM hh hk hu hg).mono (fun r J' _ ⟨z, a, b, c⟩ => ⟨z, a, b, c, by rw [if_neg (by omega)]; exact Or.inl q, by rw [if_neg (by omega)]; intro e; exact absurd e (by show ¬ g 0 4 = 0; omega)⟩) (fun _ _ _ h => h)
  · have h21 : J 164 21 = 0 := (hR.2.2 q).2.2.2.1.2.2.1
    have hA : arh (fun k => J 170 (10 + k)) h = 1 := by rw [arh_pos hk.1]; exact hk.2
    exact (x_tm1 hl n J h x y w hr_h hr_x hr_y hr_w 800 126 10 s m hM hh hk h21 hg).mono (fun r J' _ ⟨z, a, b, c⟩ => ⟨z, a, b, c.mg hM hA hh h21 hg, by rw [if_pos q]; exact (hR.made q hM hA hh hg c).1, by rw [if_pos q]; exact (hR.made q hM hA hh hg c).2⟩) (fun _ _ _ h => h)
theorem z_tm2 {l : Launch} {G : tb_G} (hl : l.stackTraces = false) (n : Nat) (J : zJ) (h x y w : Int) (hr_h : -2147483648 ≤ h ∧ h < 2147483648) (hr_x : -2147483648 ≤ x ∧ x < 2147483648) (hr_y : -2147483648 ≤ y ∧ y < 2147483648) (hr_w : -2147483648 ≤ w ∧ w < 2147483648) (s m : Int) (g : zJ) (hM : MS J 800 126 10 s m) (hh : -8 ≤ h ∧ h < s) (hk : 0 ≤ h ∧ J 170 (10 + h) = 2) (hu : J 164 21 = 0 ∨ 0 < m) (hg : (0 < (2 : Int) → 0 ≤ x ∧ x < m) ∧ (1 < (2 : Int) → 0 ≤ y ∧ y < m) ∧ (2 < (2 : Int) → 0 ≤ w ∧ w < m)) (h43 : J 164 43 = 0) (hR : RelX J g) : tz_Ok l G M_X12_termOf 2 0 0 [.ref 164, zi h, zi x, zi y, zi w] n J (zqi (fun z J' => (∃ m', MG [] [] (fun _ => false) J' J 800 126 10 s m m' ∧ 0 ≤ z ∧ z < m') ∧ RelX J' (if g 0 4 = 0 then pMd g h x y w else (g, 0)).1 ∧ ((if g 0 4 = 0 then pMd g h x y w else (g, 0)).1 0 4 = 0 → z = (if g 0 4 = 0 then pMd g h x y w else (g, 0)).2))) zN := by
  rcases hR.bad h43 with q | ⟨q, hR⟩
  · exact (m_tu2 hl n J h x y w hr_h hr_x hr_y hr_w 800 126 10 s m hM hh hk hu hg).mono (fun r J' _ ⟨z, a, b, c⟩ => ⟨z, a, b, c, by rw [if_neg (by omega)]; exact Or.inl q, by rw [if_neg (by omega)]; intro e; exact absurd e (by show ¬ g 0 4 = 0; omega)⟩) (fun _ _ _ h => h)
  · have h21 : J 164 21 = 0 := (hR.2.2 q).2.2.2.1.2.2.1
    have hA : arh (fun k => J 170 (10 + k)) h = 2 := by rw [arh_pos hk.1]; exact hk.2
    exact (x_tm2 hl n J h x y w hr_h hr_x hr_y hr_w 800 126 10 s m hM hh hk h21 hg).mono (fun r J' _ ⟨z, a, b, c⟩ => ⟨z, a, b, c.mg hM hA hh h21 hg, by rw [if_pos q]; exact (hR.made q hM hA hh hg c).1, by rw [if_pos q]; exact (hR.made q hM hA hh hg c).2⟩) (fun _ _ _ h => h)
theorem z_tm3 {l : Launch} {G : tb_G} (hl : l.stackTraces = false) (n : Nat) (J : zJ) (h x y w : Int) (hr_h : -2147483648 ≤ h ∧ h < 2147483648) (hr_x : -2147483648 ≤ x ∧ x < 2147483648) (hr_y : -2147483648 ≤ y ∧ y < 2147483648) (hr_w : -2147483648 ≤ w ∧ w < 2147483648) (s m : Int) (g : zJ) (hM : MS J 800 126 10 s m) (hh : -8 ≤ h ∧ h < s) (hk : 0 ≤ h ∧ J 170 (10 + h) = 3) (hu : J 164 21 = 0 ∨ 0 < m) (hg : (0 < (3 : Int) → 0 ≤ x ∧ x < m) ∧ (1 < (3 : Int) → 0 ≤ y ∧ y < m) ∧ (2 < (3 : Int) → 0 ≤ w ∧ w < m)) (h43 : J 164 43 = 0) (hR : RelX J g) : tz_Ok l G M_X12_termOf 2 0 0 [.ref 164, zi h, zi x, zi y, zi w] n J (zqi (fun z J' => (∃ m', MG [] [] (fun _ => false) J' J 800 126 10 s m m' ∧ 0 ≤ z ∧ z < m') ∧ RelX J' (if g 0 4 = 0 then pMd g h x y w else (g, 0)).1 ∧ ((if g 0 4 = 0 then pMd g h x y w else (g, 0)).1 0 4 = 0 → z = (if g 0 4 = 0 then pMd g h x y w else (g, 0)).2))) zN := by
  rcases hR.bad h43 with q | ⟨q, hR⟩
  · exact (m_tu3 hl n J h x y w hr_h hr_x hr_y hr_w 800 126 10 s m hM hh hk hu hg).mono (fun r J' _ ⟨z, a, b, c⟩ => ⟨z, a, b, c, by rw [if_neg (by omega)]; exact Or.inl q, by rw [if_neg (by omega)]; intro e; exact absurd e (by show ¬ g 0 4 = 0; omega)⟩) (fun _ _ _ h => h)
  · have h21 : J 164 21 = 0 := (hR.2.2 q).2.2.2.1.2.2.1
    have hA : arh (fun k => J 170 (10 + k)) h = 3 := by rw [arh_pos hk.1]; exact hk.2
    exact (x_tm3 hl n J h x y w hr_h hr_x hr_y hr_w 800 126 10 s m hM hh hk h21 hg).mono (fun r J' _ ⟨z, a, b, c⟩ => ⟨z, a, b, c.mg hM hA hh h21 hg, by rw [if_pos q]; exact (hR.made q hM hA hh hg c).1, by rw [if_pos q]; exact (hR.made q hM hA hh hg c).2⟩) (fun _ _ _ h => h)
set_option maxHeartbeats 4000000 in
set_option maxRecDepth 100000 in
theorem x_varTerm {l : Launch} {G : tb_G} (hl : l.stackTraces = false) (n : Nat) (J : zJ) (v : Int) (hr_v : -2147483648 ≤ v ∧ v < 2147483648) (s m : Int) (hM : MS J 800 126 10 s m) (hv : 0 ≤ v ∧ v < 8) (h21 : J 164 21 = 0) : tz_Ok l G M_X12_variableTerm 3 0 0 [.ref 164, zi v] n J (zqi (fun z J' => tmX J J' 800 126 m 0 (-1 - v) 0 0 0 z)) zN := by
  refine tz_Ok.of hl (by decide +kernel) rfl (tb_c1 rfl) (Nat.le_of_ble_eq_true rfl) ?_
  show tz_At l G M_X12_variableTerm (tb_rm 3 0 0) none (tb_ZM G 0 0 (zQ n 0 (zqi (fun z J' => tmX J J' 800 126 m 0 (-1 - v) 0 0 0 z))) (zX n 0 zN)) 0 0 n J 0 [some (.ref 164), some (zi v)] []
  have hT := hM.told
  refine tz_aload_n (pc := 0) dX12_variableTerm_0 rfl rfl ?_
  refine tz_iconst (pc := 1) dX12_variableTerm_1 ?_
  refine tz_iload_n (pc := 2) dX12_variableTerm_2 rfl rfl ?_
  refine tz_isub (pc := 3) (v := (-1) - v) dX12_variableTerm_3 rfl ?_
  refine tz_iconst (pc := 4) dX12_variableTerm_4 ?_
  refine tz_iconst (pc := 5) dX12_variableTerm_5 ?_
  refine tz_iconst (pc := 6) dX12_variableTerm_6 ?_
  refine tz_cV (pc := 7) (x_tmN hl n _ _ _ _ _ (by omega) (by decide) (by decide) (by decide) 800 126 10 s m hM (by omega) (by omega) h21 (by omega)) vl_X12_107 dX12_variableTerm_7 o_164 rfl rfl (Nat.le_of_ble_eq_true rfl) ⟨(Nat.le_of_ble_eq_true rfl), (Nat.le_of_ble_eq_true rfl)⟩ rfl rfl (Nat.le_of_ble_eq_true rfl) (Nat.le_of_ble_eq_true rfl) (fun r9 J_7 hq9 => ?_)
  obtain ⟨z_7, rfl, hz_7, t1⟩ := hq9
  exact tz_iret (pc := 10) (z := z_7) dX12_variableTerm_10 rfl (Nat.le_of_ble_eq_true rfl) (Nat.le_of_ble_eq_true rfl) ⟨Nat.le_refl _, Nat.le_add_right _ _⟩ ⟨_, rfl, (by omega), t1⟩

set_option maxHeartbeats 4000000 in
set_option maxRecDepth 100000 in
theorem x_symOf {l : Launch} {G : tb_G} (hl : l.stackTraces = false) (n : Nat) (J : zJ) (x : Int) (hr_x : -2147483648 ≤ x ∧ x < 2147483648)  (h0 : 0 ≤ J 164 44 ∧ J 164 44 ≤ 10) : tz_Ok l G M_X12_symbolOf 0 0 0 [.ref 164, zi x] n J (zqi (fun z J' => J = J' ∧ ((0 ≤ z ∧ z < J 164 44 ∧ fnB (fun k => decide (¬ J 169 (10 + k) = x)) (J 164 44) 0 = z) ∨ (z = -1 ∧ fnB (fun k => decide (¬ J 169 (10 + k) = x)) (J 164 44) 0 = J 164 44)))) zN := by
  refine tz_Ok.of hl (by decide +kernel) rfl (tb_c1 rfl) (Nat.le_of_ble_eq_true rfl) ?_
  show tz_At l G M_X12_symbolOf (tb_rm 0 0 0) none (tb_ZM G 0 0 (zQ n 0 (zqi (fun z J' => J = J' ∧ ((0 ≤ z ∧ z < J 164 44 ∧ fnB (fun k => decide (¬ J 169 (10 + k) = x)) (J 164 44) 0 = z) ∨ (z = -1 ∧ fnB (fun k => decide (¬ J 169 (10 + k) = x)) (J 164 44) 0 = J 164 44))))) (zX n 0 zN)) 0 0 n J 0 [some (.ref 164), some (zi x), none] []
  refine tz_iconst (pc := 0) dX12_symbolOf_0 ?_
  refine tz_istore_n (pc := 1) (L2 := [_, _, _]) dX12_symbolOf_1 rfl (by decide) rfl ?_
  have loop2 : ∀ (f9 : Nat) (k : Int), ((10 - k).toNat) < f9 → (0 ≤ k ∧ k ≤ J 164 44) → (∀ q, 0 ≤ q → q < k → ¬ J 169 (10 + q) = x) → tz_At l G M_X12_symbolOf (tb_rm 0 0 0) none (tb_ZM G 0 0 (zQ n 0 (zqi (fun z J' => J = J' ∧ ((0 ≤ z ∧ z < J 164 44 ∧ fnB (fun k => decide (¬ J 169 (10 + k) = x)) (J 164 44) 0 = z) ∨ (z = -1 ∧ fnB (fun k => decide (¬ J 169 (10 + k) = x)) (J 164 44) 0 = J 164 44))))) (zX n 0 zN)) 0 0 n J 2 [some (.ref 164), some (zi x), some (zi k)] [] := by
    intro f9
    induction f9 with
    | zero => intro k hm9; exact absurd hm9 (Nat.not_lt_zero _)
    | succ f9 ih2 =>
      intro k hm2 hk hq
      refine tz_iload_n (pc := 2) dX12_symbolOf_2 rfl rfl ?_
      refine tz_aload_n (pc := 3) dX12_symbolOf_3 rfl rfl ?_
      refine tz_fI (pc := 4) (kz := 44) (v := (J 164 44)) dX12_symbolOf_4 fl_X12_287 i_164_44 rfl rfl (fun r_4 => ?_)
      refine tz_icmp_ge (pc := 7) (tgt := 31) dX12_symbolOf_7 (by decide) (by omega) (by omega) (fun h_7 => ?_) (fun h_7 => ?_)
      · refine tz_iconst (pc := 31) dX12_symbolOf_31 ?_
        exact tz_iret (pc := 32) (z := (-1)) dX12_symbolOf_32 rfl (Nat.le_of_ble_eq_true rfl) (Nat.le_of_ble_eq_true rfl) ⟨Nat.le_refl _, Nat.le_add_right _ _⟩ ⟨_, rfl, (by decide), ⟨rfl, Or.inr ⟨rfl, fnB_eq (by omega) (by omega) (fun q a b => decide_eq_true (hq q a (by omega))) (Or.inl rfl)⟩⟩⟩
      · refine tz_aload_n (pc := 10) dX12_symbolOf_10 rfl rfl ?_
        refine tz_fR (pc := 11) dX12_symbolOf_11 fl_X12_22 r_164_4 ?_
        refine tz_bipush (pc := 14) dX12_symbolOf_14 (by decide) ?_
        refine tz_iload_n (pc := 16) dX12_symbolOf_16 rfl rfl ?_
        refine tz_iadd (pc := 17) (v := 10 + k) dX12_symbolOf_17 rfl ?_
        refine tz_aL (pc := 18) (z := (10 + k)) (v := (J 169 (10 + k))) dX12_symbolOf_18 a_169 rfl (by omega) rfl (fun r_18 => ?_)
        refine tz_iload_n (pc := 19) dX12_symbolOf_19 rfl rfl ?_
        refine tz_icmp_ne (pc := 20) (tgt := 25) dX12_symbolOf_20 (by decide) (by omega) (by omega) (fun h_20 => ?_) (fun h_20 => ?_)
        · refine tz_iinc (pc := 25) (z := k + 1) (L2 := [_, _, _]) dX12_symbolOf_25 rfl (by omega) rfl ?_
          refine tz_goto (pc := 28) (tgt := 2) dX12_symbolOf_28 (by decide) ?_
          exact ih2 (k + 1) (by omega) (by omega) (fun q a b => (Decidable.em (q = k)).elim (fun e => by rw [e]; omega) (fun e => hq q a (by omega)))
        · refine tz_iload_n (pc := 23) dX12_symbolOf_23 rfl rfl ?_
          exact tz_iret (pc := 24) (z := k) dX12_symbolOf_24 rfl (Nat.le_of_ble_eq_true rfl) (Nat.le_of_ble_eq_true rfl) ⟨Nat.le_refl _, Nat.le_add_right _ _⟩ ⟨_, rfl, (by omega), ⟨rfl, Or.inl ⟨by omega, by omega, fnB_eq (by omega) (by omega) (fun q a b => decide_eq_true (hq q a b)) (Or.inr (decide_eq_false (fun e => e (by omega))))⟩⟩⟩
  exact loop2 _ 0 (Nat.lt_succ_self _) (by omega) (fun q a b => by omega)

set_option maxHeartbeats 4000000 in
set_option maxRecDepth 100000 in
theorem z_term1R {l : Launch} {G : tb_G} (hl : l.stackTraces = false) (n : Nat) : ∀ (r9 : Nat) (J : zJ) (x : Int) (hr_x : -2147483648 ≤ x ∧ x < 2147483648) (s m : Int) (g : zJ) (hM : MS J 800 126 10 s m) (hP : RSP J) (hu : J 164 21 = 0 ∨ 0 < m) (h44 : J 164 44 = s) (hx : 1 ≤ x ∧ x ≤ 7) (hX : RelX J g) (hS : SI g), ((7 - x).toNat) < r9 → tz_Ok l G M_X12_term1 (6 + 1 * r9) 0 0 [.ref 164, zi x] n J (zqi (fun z J' => ∃ m', MRT J' J s m m' ∧ TV J' z m' ∧ RelX J' (pT r9 g x).1 ∧ VQ z (pT r9 g x))) zN := by
  intro r9
  induction r9 with
  | zero => intro J x hr_x s m g hM hP hu h44 hx hX hS hm9; exact absurd hm9 (Nat.not_lt_zero _)
  | succ r9 ih =>
    intro J x hr_x s m g hM hP hu h44 hx hX hS hm9
    by_cases h99 : g 0 4 = 99
    · exact (m_term1R hl n (r9 + 1) J x hr_x s m hM hP hu h44 hx hm9).mono (fun r J' _ ⟨z, a, b, c, d, e⟩ => ⟨z, a, b, c, d, e, by rw [pT_f (by omega)]; exact Or.inl h99, fun q9 => absurd (show g 0 4 = 0 from by rw [pT_f (by omega)] at q9; exact q9) (by omega)⟩) (fun _ _ _ h => h)
    have hR := hX.resolve_left h99
    refine tz_Ok.of hl (by decide +kernel) rfl (tb_c1 rfl) (Nat.le_of_ble_eq_true rfl) ?_
    show tz_At l G M_X12_term1 (tb_rm (6 + 1 * (r9 + 1)) 0 0) none (tb_ZM G 0 0 (zQ n 0 (zqi (fun z J' => ∃ m', MRT J' J s m m' ∧ TV J' z m' ∧ RelX J' (pT (r9 + 1) g x).1 ∧ VQ z (pT (r9 + 1) g x)))) (zX n 0 zN)) 0 0 n J 0 [some (.ref 164), some (zi x), none, none, none, none, none] []
    have hT0 := hM.told
    have g0 := MRT.rf hM hP hu
    clear hu
    refine tz_aload_n (pc := 0) dX12_term1_0 rfl rfl ?_
    refine tz_fI (pc := 1) (kz := 43) (v := (J 164 43)) dX12_term1_1 fl_X12_273 i_164_43 rfl rfl (fun r_1 => ?_)
    refine tz_if_ne (pc := 4) (tgt := 37) dX12_term1_4 (by decide) (by omega) (fun h_4 => ?_) (fun h_4 => ?_)
    · refine tz_iconst (pc := 37) dX12_term1_37 ?_
      exact tz_iret (pc := 38) (z := 0) dX12_term1_38 rfl (Nat.le_of_ble_eq_true rfl) (Nat.le_of_ble_eq_true rfl) ⟨Nat.le_refl _, Nat.le_add_right _ _⟩ ⟨_, rfl, (by decide), ⟨m, g0, fun q9 => absurd q9 h_4, by rw [pT_f (by rw [← hR.1]; exact h_4)]; exact Or.inr hR, fun q9 => absurd (show g 0 4 = 0 by rw [pT_f (by rw [← hR.1]; exact h_4)] at q9; exact q9) (by rw [← hR.1]; exact h_4)⟩⟩
    · have h0 : g 0 4 = 0 := by rw [← hR.1]; omega
      have hT := hR.2.2 h0
      refine tz_aload_n (pc := 7) dX12_term1_7 rfl rfl ?_
      refine tz_aload_n (pc := 8) dX12_term1_8 rfl rfl ?_
      refine tz_fI (pc := 9) (kz := 38) (v := (J 164 38)) dX12_term1_9 fl_X12_261 i_164_38 rfl rfl (fun r_9 => ?_)
      refine tz_iconst (pc := 12) dX12_term1_12 ?_
      refine tz_icmp_eq (pc := 13) (tgt := 25) dX12_term1_13 (by decide) (by omega) (by decide) (fun h_13 => ?_) (fun h_13 => ?_)
      · refine tz_iconst (pc := 25) dX12_term1_25 ?_
        refine tz_goto (pc := 26) (tgt := 30) dX12_term1_26 (by decide) ?_
        refine tz_iconst (pc := 30) dX12_term1_30 ?_
        refine tz_cV (pc := 31) (y_wants hl n _ _ _ (by decide) (by decide) g hR hP (by decide)) vl_X12_276 dX12_term1_31 o_164 rfl rfl (Nat.le_of_ble_eq_true rfl) ⟨(show 0 + 1 ≤ 6 + 1 * (r9 + 1) by omega), (show 8 + (3 + 11) + 40 * (0) ≤ 40 * (6 + 1 * (r9 + 1)) by omega)⟩ rfl rfl (Nat.le_of_ble_eq_true rfl) (Nat.le_of_ble_eq_true rfl) (fun r9 J_31 hq9 => ?_)
        obtain ⟨z_31, rfl, hz_31, w_31, o_31⟩ := hq9
        obtain ⟨rfl, rfl⟩ : z_31 = 1 ∧ J = J_31 := by rcases o_31 with q | q | q; exact ⟨q.2.2.1, q.2.2.2⟩; exact absurd q.2.1 (by decide); exact absurd h0 q.1
        clear o_31
        refine tz_if_neT (pc := 34) (tgt := 39) (by decide) dX12_term1_34 (by decide) (by decide) ?_
        refine tz_aload_n (pc := 39) dX12_term1_39 rfl rfl ?_
        refine tz_fI (pc := 40) (kz := 42) (v := (J 164 42)) dX12_term1_40 fl_X12_258 i_164_42 rfl rfl (fun r_40 => ?_)
        refine tz_bipush (pc := 43) dX12_term1_43 (by decide) ?_
        refine tz_icmp_ne (pc := 45) (tgt := 98) dX12_term1_45 (by decide) (by omega) (by decide) (fun h_45 => ?_) (fun h_45 => ?_)
        · refine tz_aload_n (pc := 98) dX12_term1_98 rfl rfl ?_
          refine tz_aload_n (pc := 99) dX12_term1_99 rfl rfl ?_
          refine tz_aload_n (pc := 100) dX12_term1_100 rfl rfl ?_
          refine tz_fI (pc := 101) (kz := 36) (v := (J 164 36)) dX12_term1_101 fl_X12_246 i_164_36 rfl rfl (fun r_101 => ?_)
          have hp9 := hP.2.1
          refine tz_cV (pc := 104) (m_byteAt hl n _ _ (by omega) (by omega) hP.1.1.2) vl_X12_240 dX12_term1_104 o_164 rfl rfl (Nat.le_of_ble_eq_true rfl) ⟨(show 0 + 1 ≤ 6 + 1 * (r9 + 1) by omega), (show 8 + (2 + 11) + 40 * (0) ≤ 40 * (6 + 1 * (r9 + 1)) by omega)⟩ rfl rfl (Nat.le_of_ble_eq_true rfl) (Nat.le_of_ble_eq_true rfl) (fun r9 J_104 hq9 => ?_)
          obtain ⟨z_104, rfl, hz_104, rfl, -, hc9⟩ := hq9
          have hq9 : J 164 36 < J 164 37 := by rw [hT.1.1, hT.2.1]; have := hS.2.2; have := hT.1.so; omega
          have hb9 := hc9 hq9
          rw [hT.1.1, hT.2.2.1] at hb9
          refine tz_cV (pc := 107) (x_symOf hl n _ _ (by omega) (by rw [h44]; omega)) vl_X12_293 dX12_term1_107 o_164 rfl rfl (Nat.le_of_ble_eq_true rfl) ⟨(show 0 + 1 ≤ 6 + 1 * (r9 + 1) by omega), (show 8 + (3 + 11) + 40 * (0) ≤ 40 * (6 + 1 * (r9 + 1)) by omega)⟩ rfl rfl (Nat.le_of_ble_eq_true rfl) (Nat.le_of_ble_eq_true rfl) (fun r9 J_107 hq9 => ?_)
          obtain ⟨z_107, rfl, hz_107, rfl, hs9⟩ := hq9
          have hps : fnB (fun k => decide (¬ J 169 (10 + k) = z_104)) (J 164 44) 0 = psy g (g 1 (g 0 1)) := by rw [← hb9]; unfold psy; rw [hT.2.2.2.1.1]; exact fnB_cg (fun j a b => by rw [(hT.2.2.2.2.2.2.2 (10 + j) (by omega) (by rw [← hT.2.2.2.1.1, h44] at b; omega)).1])
          rw [hps, h44] at hs9
          have h4g : g 164 44 = s := by rw [← hT.2.2.2.1.1]; exact h44
          refine tz_istore_n (pc := 110) (L2 := [_, _, _, _, _, _, _]) dX12_term1_110 rfl (by decide) rfl ?_
          refine tz_aload_n (pc := 111) dX12_term1_111 rfl rfl ?_
          refine tz_aload_n (pc := 112) dX12_term1_112 rfl rfl ?_
          refine tz_fI (pc := 113) (kz := 41) (v := (J 164 41)) dX12_term1_113 fl_X12_252 i_164_41 rfl rfl (fun r_113 => ?_)
          refine tz_iconst (pc := 116) dX12_term1_116 ?_
          refine tz_icmp_ne (pc := 117) (tgt := 130) dX12_term1_117 (by decide) (by omega) (by decide) (fun h_117 => ?_) (fun h_117 => ?_)
          · refine tz_iconst (pc := 130) dX12_term1_130 ?_
            refine tz_iconst (pc := 131) dX12_term1_131 ?_
            refine tz_cV (pc := 132) (y_wants hl n _ _ _ (by decide) (by decide) g hR hP (by decide)) vl_X12_276 dX12_term1_132 o_164 rfl rfl (Nat.le_of_ble_eq_true rfl) ⟨(show 0 + 1 ≤ 6 + 1 * (r9 + 1) by omega), (show 8 + (3 + 11) + 40 * (0) ≤ 40 * (6 + 1 * (r9 + 1)) by omega)⟩ rfl rfl (Nat.le_of_ble_eq_true rfl) (Nat.le_of_ble_eq_true rfl) (fun r9 J_132 hq9 => ?_)
            obtain ⟨z_132, rfl, hz_132, w_132, o_132⟩ := hq9
            obtain ⟨rfl, v_132, r_132⟩ : z_132 = 0 ∧ ¬ J_132 164 43 = 0 ∧ RelM J_132 (pF g 2) := by rcases o_132 with q | q | q; exact absurd rfl q.2.1; exact ⟨q.2.2.1, q.2.2.2⟩; exact absurd h0 q.1
            have q_132 := MRT.w g0 w_132
            clear o_132
            refine tz_if_eqT (pc := 135) (tgt := 156) (by decide) dX12_term1_135 (by decide) (by decide) ?_
            refine tz_iconst (pc := 156) dX12_term1_156 ?_
            exact tz_iret (pc := 157) (z := 0) dX12_term1_157 rfl (Nat.le_of_ble_eq_true rfl) (Nat.le_of_ble_eq_true rfl) ⟨Nat.le_refl _, Nat.le_add_right _ _⟩ ⟨_, rfl, (by decide), (by have e9 : pT (r9 + 1) g x = (pF g 2, 0) := (by rw [pT_s, if_pos h0, if_neg (by have := hT.1.sg (c := 63) (by decide); omega), if_pos (by have := hT.1.so; omega), if_neg (by have := hT.1.so; omega)]); exact ⟨m, q_132, fun q9 => absurd q9 v_132, by rw [e9]; exact Or.inr r_132, fun q9 => absurd (r_132.1.trans (by rw [e9] at q9; exact q9)) v_132⟩)⟩
          · refine tz_iload_n (pc := 120) dX12_term1_120 rfl rfl ?_
            refine tz_bipush (pc := 121) dX12_term1_121 (by decide) ?_
            refine tz_icmp_gt (pc := 123) (tgt := 130) dX12_term1_123 (by decide) (by omega) (by decide) (fun h_123 => ?_) (fun h_123 => ?_)
            · refine tz_iconst (pc := 130) dX12_term1_130 ?_
              refine tz_iconst (pc := 131) dX12_term1_131 ?_
              refine tz_cV (pc := 132) (y_wants hl n _ _ _ (by decide) (by decide) g hR hP (by decide)) vl_X12_276 dX12_term1_132 o_164 rfl rfl (Nat.le_of_ble_eq_true rfl) ⟨(show 0 + 1 ≤ 6 + 1 * (r9 + 1) by omega), (show 8 + (3 + 11) + 40 * (0) ≤ 40 * (6 + 1 * (r9 + 1)) by omega)⟩ rfl rfl (Nat.le_of_ble_eq_true rfl) (Nat.le_of_ble_eq_true rfl) (fun r9 J_132 hq9 => ?_)
              obtain ⟨z_132, rfl, hz_132, w_132, o_132⟩ := hq9
              obtain ⟨rfl, v_132, r_132⟩ : z_132 = 0 ∧ ¬ J_132 164 43 = 0 ∧ RelM J_132 (pF g 2) := by rcases o_132 with q | q | q; exact absurd rfl q.2.1; exact ⟨q.2.2.1, q.2.2.2⟩; exact absurd h0 q.1
              have q_132 := MRT.w g0 w_132
              clear o_132
              refine tz_if_eqT (pc := 135) (tgt := 156) (by decide) dX12_term1_135 (by decide) (by decide) ?_
              refine tz_iconst (pc := 156) dX12_term1_156 ?_
              exact tz_iret (pc := 157) (z := 0) dX12_term1_157 rfl (Nat.le_of_ble_eq_true rfl) (Nat.le_of_ble_eq_true rfl) ⟨Nat.le_refl _, Nat.le_add_right _ _⟩ ⟨_, rfl, (by decide), (by have e9 : pT (r9 + 1) g x = (pF g 2, 0) := (by rw [pT_s, if_pos h0, if_neg (by have := hT.1.sg (c := 63) (by decide); omega), if_pos (by have := hT.1.so; omega), if_neg (by have := hT.1.so; omega)]); exact ⟨m, q_132, fun q9 => absurd q9 v_132, by rw [e9]; exact Or.inr r_132, fun q9 => absurd (r_132.1.trans (by rw [e9] at q9; exact q9)) v_132⟩)⟩
            · refine tz_iconst (pc := 126) dX12_term1_126 ?_
              refine tz_goto (pc := 127) (tgt := 131) dX12_term1_127 (by decide) ?_
              refine tz_iconst (pc := 131) dX12_term1_131 ?_
              refine tz_cV (pc := 132) (y_wants hl n _ _ _ (by decide) (by decide) g hR hP (by decide)) vl_X12_276 dX12_term1_132 o_164 rfl rfl (Nat.le_of_ble_eq_true rfl) ⟨(show 0 + 1 ≤ 6 + 1 * (r9 + 1) by omega), (show 8 + (3 + 11) + 40 * (0) ≤ 40 * (6 + 1 * (r9 + 1)) by omega)⟩ rfl rfl (Nat.le_of_ble_eq_true rfl) (Nat.le_of_ble_eq_true rfl) (fun r9 J_132 hq9 => ?_)
              obtain ⟨z_132, rfl, hz_132, w_132, o_132⟩ := hq9
              obtain ⟨rfl, rfl⟩ : z_132 = 1 ∧ J = J_132 := by rcases o_132 with q | q | q; exact ⟨q.2.2.1, q.2.2.2⟩; exact absurd q.2.1 (by decide); exact absurd h0 q.1
              clear o_132
              refine tz_if_eqF (pc := 135) (tgt := 156) (by decide) dX12_term1_135 (by decide) (by decide) ?_
              refine tz_aload_n (pc := 138) dX12_term1_138 rfl rfl ?_
              refine tz_iload_n (pc := 139) dX12_term1_139 rfl rfl ?_
              refine tz_iconst (pc := 140) dX12_term1_140 ?_
              refine tz_icmp_eq (pc := 141) (tgt := 148) dX12_term1_141 (by decide) (by omega) (by decide) (fun h_141 => ?_) (fun h_141 => ?_)
              · refine tz_iconst (pc := 148) dX12_term1_148 ?_
                refine tz_iconst (pc := 149) dX12_term1_149 ?_
                refine tz_cV (pc := 150) (y_wants hl n _ _ _ (by decide) (by decide) g hR hP (by decide)) vl_X12_276 dX12_term1_150 o_164 rfl rfl (Nat.le_of_ble_eq_true rfl) ⟨(show 0 + 1 ≤ 6 + 1 * (r9 + 1) by omega), (show 8 + (3 + 11) + 40 * (0) ≤ 40 * (6 + 1 * (r9 + 1)) by omega)⟩ rfl rfl (Nat.le_of_ble_eq_true rfl) (Nat.le_of_ble_eq_true rfl) (fun r9 J_150 hq9 => ?_)
                obtain ⟨z_150, rfl, hz_150, w_150, o_150⟩ := hq9
                obtain ⟨rfl, v_150, r_150⟩ : z_150 = 0 ∧ ¬ J_150 164 43 = 0 ∧ RelM J_150 (pF g 3) := by rcases o_150 with q | q | q; exact absurd rfl q.2.1; exact ⟨q.2.2.1, q.2.2.2⟩; exact absurd h0 q.1
                have q_150 := MRT.w g0 w_150
                clear o_150
                refine tz_if_neF (pc := 153) (tgt := 158) (by decide) dX12_term1_153 (by decide) (by decide) ?_
                refine tz_iconst (pc := 156) dX12_term1_156 ?_
                exact tz_iret (pc := 157) (z := 0) dX12_term1_157 rfl (Nat.le_of_ble_eq_true rfl) (Nat.le_of_ble_eq_true rfl) ⟨Nat.le_refl _, Nat.le_add_right _ _⟩ ⟨_, rfl, (by decide), (by have e9 : pT (r9 + 1) g x = (pF g 3, 0) := (by rw [pT_s, if_pos h0, if_neg (by have := hT.1.sg (c := 63) (by decide); omega), if_pos (by have := hT.1.so; omega), if_pos (by have := hT.1.so; omega), if_neg (by omega)]); exact ⟨m, q_150, fun q9 => absurd q9 v_150, by rw [e9]; exact Or.inr r_150, fun q9 => absurd (r_150.1.trans (by rw [e9] at q9; exact q9)) v_150⟩)⟩
              · refine tz_iconst (pc := 144) dX12_term1_144 ?_
                refine tz_goto (pc := 145) (tgt := 149) dX12_term1_145 (by decide) ?_
                refine tz_iconst (pc := 149) dX12_term1_149 ?_
                refine tz_cV (pc := 150) (y_wants hl n _ _ _ (by decide) (by decide) g hR hP (by decide)) vl_X12_276 dX12_term1_150 o_164 rfl rfl (Nat.le_of_ble_eq_true rfl) ⟨(show 0 + 1 ≤ 6 + 1 * (r9 + 1) by omega), (show 8 + (3 + 11) + 40 * (0) ≤ 40 * (6 + 1 * (r9 + 1)) by omega)⟩ rfl rfl (Nat.le_of_ble_eq_true rfl) (Nat.le_of_ble_eq_true rfl) (fun r9 J_150 hq9 => ?_)
                obtain ⟨z_150, rfl, hz_150, w_150, o_150⟩ := hq9
                obtain ⟨rfl, rfl⟩ : z_150 = 1 ∧ J = J_150 := by rcases o_150 with q | q | q; exact ⟨q.2.2.1, q.2.2.2⟩; exact absurd q.2.1 (by decide); exact absurd h0 q.1
                clear o_150
                refine tz_if_neT (pc := 153) (tgt := 158) (by decide) dX12_term1_153 (by decide) (by decide) ?_
                refine tz_aload_n (pc := 158) dX12_term1_158 rfl rfl ?_
                refine tz_cV (pc := 159) (y_go hl n _ g hR h0 hS) vl_X12_280 dX12_term1_159 o_164 rfl rfl (Nat.le_of_ble_eq_true rfl) ⟨(show 2 + 1 ≤ 6 + 1 * (r9 + 1) by omega), (show 8 + (2 + 11) + 40 * (2) ≤ 40 * (6 + 1 * (r9 + 1)) by omega)⟩ rfl rfl (Nat.le_of_ble_eq_true rfl) (Nat.le_of_ble_eq_true rfl) (fun r9 J_159 hq9 => ?_)
                obtain ⟨rfl, r_159, w_159, u_159⟩ := hq9
                have q_159 := MRT.w g0 w_159
                have s_159 := hS.n
                have x_159 : RelX J_159 (pN g) := Or.inr r_159
                clear u_159
                refine tz_aload_n (pc := 162) dX12_term1_162 rfl rfl ?_
                refine tz_fR (pc := 163) dX12_term1_163 fl_X12_25 r_164_5 ?_
                refine tz_bipush (pc := 166) dX12_term1_166 (by decide) ?_
                refine tz_iload_n (pc := 168) dX12_term1_168 rfl rfl ?_
                refine tz_iadd (pc := 169) (v := 10 + z_107) dX12_term1_169 rfl ?_
                refine tz_aL (pc := 170) (z := (10 + z_107)) (v := (J 170 (10 + z_107))) dX12_term1_170 a_170 rfl (by omega) (Eq.trans (congrFun (w_159.1.1 170 rfl) (10 + z_107)) rfl) (fun r_170 => ?_)
                have hA8 : 0 ≤ J 170 (10 + z_107) ∧ J 170 (10 + z_107) ≤ 3 := hM.2.2.2.2.2.1.2 z_107 (by omega) (by omega)
                have hz9 : z_107 = psy g (g 1 (g 0 1)) ∧ psy g (g 1 (g 0 1)) < s := by omega
                have hgA : (pN g) 170 (10 + psy g (g 1 (g 0 1))) = J 170 (10 + z_107) := by rw [pN_c (c := 170) (by decide), ← hz9.1]; exact ((hT.2.2.2.2.2.2.2 _ (by omega) (by omega)).2.1).symm
                rcases (show J 170 (10 + z_107) = 0 ∨ J 170 (10 + z_107) = 1 ∨ J 170 (10 + z_107) = 2 ∨ J 170 (10 + z_107) = 3 by omega) with hk9 | hk9 | hk9 | hk9
                · rw [hk9] at hgA ⊢
                  refine tz_istore_n (pc := 171) (L2 := [_, _, _, _, _, _, _]) dX12_term1_171 rfl (by decide) rfl ?_
                  refine tz_iconst (pc := 172) dX12_term1_172 ?_
                  refine tz_istore (pc := 173) (L2 := [_, _, _, _, _, _, _]) dX12_term1_173 (by decide) rfl ?_
                  refine tz_iconst (pc := 175) dX12_term1_175 ?_
                  refine tz_istore (pc := 176) (L2 := [_, _, _, _, _, _, _]) dX12_term1_176 (by decide) rfl ?_
                  refine tz_iconst (pc := 178) dX12_term1_178 ?_
                  refine tz_istore (pc := 179) (L2 := [_, _, _, _, _, _, _]) dX12_term1_179 (by decide) rfl ?_
                  refine tz_iload_n (pc := 181) dX12_term1_181 rfl rfl ?_
                  refine tz_if_leT (pc := 182) (tgt := 264) (by decide) dX12_term1_182 (by decide) (by decide) ?_
                  refine tz_aload_n (pc := 264) dX12_term1_264 rfl rfl ?_
                  refine tz_fI (pc := 265) (kz := 43) (v := (J_159 164 43)) dX12_term1_265 fl_X12_273 i_164_43 rfl rfl (fun r_265 => ?_)
                  refine tz_if_ne (pc := 268) (tgt := 285) dX12_term1_268 (by decide) (by omega) (fun h_268 => ?_) (fun h_268 => ?_)
                  · refine tz_iconst (pc := 285) dX12_term1_285 ?_
                    exact tz_iret (pc := 286) (z := 0) dX12_term1_286 rfl (Nat.le_of_ble_eq_true rfl) (Nat.le_of_ble_eq_true rfl) ⟨Nat.le_refl _, Nat.le_add_right _ _⟩ ⟨_, rfl, (by decide), (by have e9 : pT (r9 + 1) g x = (if (pN g) 0 4 = 0 then pMd (pN g) (psy g (g 1 (g 0 1)))  0 0 0 else (pN g, 0)) := (by rw [pT_s, if_pos h0, if_neg (by have := hT.1.sg (c := 63) (by decide); omega), if_pos (by have := hT.1.so; omega), if_pos (by have := hT.1.so; omega), if_pos (by omega)]; unfold pC; rw [hgA]; unfold pA4 pA3 pA2 pA1; simp only [show ¬ ((0 : Int) < 0) by decide, show ¬ ((1 : Int) < 0) by decide, show ¬ ((2 : Int) < 0) by decide, if_true, if_false]); have n9 := x_159.no (by omega); exact ⟨m, q_159, fun q9 => by omega, by rw [e9, if_neg n9]; exact x_159, fun q9 => absurd (show (pN g) 0 4 = 0 from by rw [e9, if_neg n9] at q9; exact q9) n9⟩)⟩
                  · refine tz_aload_n (pc := 271) dX12_term1_271 rfl rfl ?_
                    refine tz_iload_n (pc := 272) dX12_term1_272 rfl rfl ?_
                    refine tz_iload (pc := 273) dX12_term1_273 rfl ?_
                    refine tz_iload (pc := 275) dX12_term1_275 rfl ?_
                    refine tz_iload (pc := 277) dX12_term1_277 rfl ?_
                    refine tz_cV (pc := 279) (z_tm0 hl n _ _ _ _ _ (by omega) (by decide) (by decide) (by decide) s m _ (q_159).1.1.1 (by omega) ⟨by omega, ((congrFun ((q_159).c 170 rfl) _).trans hk9)⟩ (q_159).2.2.2.2 ⟨fun g9 => absurd g9 (by decide), fun g9 => absurd g9 (by decide), fun g9 => absurd g9 (by decide)⟩ h_268 x_159) vl_X12_107 dX12_term1_279 o_164 rfl rfl (Nat.le_of_ble_eq_true rfl) ⟨(show 2 + 1 ≤ 6 + 1 * (r9 + 1) by omega), (show 8 + (8 + 11) + 40 * (2) ≤ 40 * (6 + 1 * (r9 + 1)) by omega)⟩ rfl rfl (Nat.le_of_ble_eq_true rfl) (Nat.le_of_ble_eq_true rfl) (fun r9 J_279 hq9 => ?_)
                    obtain ⟨z_279, rfl, hz_279, ⟨m_279, g_279, h_279⟩, x_279, y_279⟩ := hq9
                    have q_279 := MRT.t q_159 g_279 (by omega)
                    refine tz_goto (pc := 282) (tgt := 286) dX12_term1_282 (by decide) ?_
                    exact tz_iret (pc := 286) (z := z_279) dX12_term1_286 rfl (Nat.le_of_ble_eq_true rfl) (Nat.le_of_ble_eq_true rfl) ⟨Nat.le_refl _, Nat.le_add_right _ _⟩ ⟨_, rfl, (by omega), (by have e9 : pT (r9 + 1) g x = (if (pN g) 0 4 = 0 then pMd (pN g) (psy g (g 1 (g 0 1)))  0 0 0 else (pN g, 0)) := (by rw [pT_s, if_pos h0, if_neg (by have := hT.1.sg (c := 63) (by decide); omega), if_pos (by have := hT.1.so; omega), if_pos (by have := hT.1.so; omega), if_pos (by omega)]; unfold pC; rw [hgA]; unfold pA4 pA3 pA2 pA1; simp only [show ¬ ((0 : Int) < 0) by decide, show ¬ ((1 : Int) < 0) by decide, show ¬ ((2 : Int) < 0) by decide, if_true, if_false]); have e8 : (if (pN g) 0 4 = 0 then pMd (pN g) (psy g (g 1 (g 0 1)))  0 0 0 else (pN g, 0)) = (if (pN g) 0 4 = 0 then pMd (pN g) z_107  0 0 0 else (pN g, 0)) := (by by_cases q9 : (pN g) 0 4 = 0; (rw [if_pos q9, if_pos q9]; skip; rw [← hz9.1]); rw [if_neg q9, if_neg q9]); exact ⟨m_279, q_279, fun _ => h_279, by rw [e9, e8]; exact x_279, by rw [e9, e8]; exact y_279⟩)⟩
                · rw [hk9] at hgA ⊢
                  refine tz_istore_n (pc := 171) (L2 := [_, _, _, _, _, _, _]) dX12_term1_171 rfl (by decide) rfl ?_
                  refine tz_iconst (pc := 172) dX12_term1_172 ?_
                  refine tz_istore (pc := 173) (L2 := [_, _, _, _, _, _, _]) dX12_term1_173 (by decide) rfl ?_
                  refine tz_iconst (pc := 175) dX12_term1_175 ?_
                  refine tz_istore (pc := 176) (L2 := [_, _, _, _, _, _, _]) dX12_term1_176 (by decide) rfl ?_
                  refine tz_iconst (pc := 178) dX12_term1_178 ?_
                  refine tz_istore (pc := 179) (L2 := [_, _, _, _, _, _, _]) dX12_term1_179 (by decide) rfl ?_
                  refine tz_iload_n (pc := 181) dX12_term1_181 rfl rfl ?_
                  refine tz_if_leF (pc := 182) (tgt := 264) (by decide) dX12_term1_182 (by decide) (by decide) ?_
                  refine tz_aload_n (pc := 185) dX12_term1_185 rfl rfl ?_
                  refine tz_bipush (pc := 186) dX12_term1_186 (by decide) ?_
                  refine tz_cV (pc := 188) (z_sign hl n _ _ (by decide) _ x_159 s_159 (q_159).2.1 (by decide)) vl_X12_296 dX12_term1_188 o_164 rfl rfl (Nat.le_of_ble_eq_true rfl) ⟨(show 3 + 1 ≤ 6 + 1 * (r9 + 1) by omega), (show 8 + (2 + 11) + 40 * (3) ≤ 40 * (6 + 1 * (r9 + 1)) by omega)⟩ rfl rfl (Nat.le_of_ble_eq_true rfl) (Nat.le_of_ble_eq_true rfl) (fun r9 J_188 hq9 => ?_)
                  obtain ⟨rfl, w_188, b_188, x_188⟩ := hq9
                  have q_188 := MRT.w q_159 w_188
                  have s_188 := s_159.p (c := 40)
                  clear b_188
                  refine tz_aload_n (pc := 191) dX12_term1_191 rfl rfl ?_
                  refine tz_iload_n (pc := 192) dX12_term1_192 rfl rfl ?_
                  refine tz_iconst (pc := 193) dX12_term1_193 ?_
                  refine tz_iadd (pc := 194) (v := x + 1) dX12_term1_194 rfl ?_
                  refine tz_cV (pc := 195) (ih _ _ (by omega) s m _ (q_188).1.1.1 (q_188).2.1 (q_188).2.2.2.2 (((q_188).f 44 rfl).trans h44) (by omega) x_188 s_188 (by omega)) vl_X12_298 dX12_term1_195 o_164 rfl rfl (Nat.le_of_ble_eq_true rfl) ⟨(show (6 + 1 * r9) + 1 ≤ 6 + 1 * (r9 + 1) by omega), (show 8 + (7 + 11) + 40 * ((6 + 1 * r9)) ≤ 40 * (6 + 1 * (r9 + 1)) by omega)⟩ rfl rfl (Nat.le_of_ble_eq_true rfl) (Nat.le_of_ble_eq_true rfl) (fun r9 J_195 hq9 => ?_)
                  obtain ⟨z_195, rfl, hz_195, m_195, w_195, h_195, x_195, y_195⟩ := hq9
                  have q_195 := MRT.tr q_188 w_195
                  have l_195 := w_195.1.1.2
                  have s_195 := SI.t r9 _ (x + 1) s_188
                  refine tz_istore (pc := 198) (L2 := [_, _, _, _, _, _, _]) dX12_term1_198 (by decide) rfl ?_
                  refine tz_iload_n (pc := 200) dX12_term1_200 rfl rfl ?_
                  refine tz_iconst (pc := 201) dX12_term1_201 ?_
                  refine tz_icmp_leT (pc := 202) (tgt := 211) (by decide) dX12_term1_202 (by decide) (by decide) (by decide) ?_
                  refine tz_iload_n (pc := 211) dX12_term1_211 rfl rfl ?_
                  refine tz_iconst (pc := 212) dX12_term1_212 ?_
                  refine tz_icmp_leT (pc := 213) (tgt := 226) (by decide) dX12_term1_213 (by decide) (by decide) (by decide) ?_
                  refine tz_iconst (pc := 226) dX12_term1_226 ?_
                  refine tz_istore (pc := 227) (L2 := [_, _, _, _, _, _, _]) dX12_term1_227 (by decide) rfl ?_
                  refine tz_iload_n (pc := 229) dX12_term1_229 rfl rfl ?_
                  refine tz_iconst (pc := 230) dX12_term1_230 ?_
                  refine tz_icmp_leT (pc := 231) (tgt := 240) (by decide) dX12_term1_231 (by decide) (by decide) (by decide) ?_
                  refine tz_iload_n (pc := 240) dX12_term1_240 rfl rfl ?_
                  refine tz_iconst (pc := 241) dX12_term1_241 ?_
                  refine tz_icmp_leT (pc := 242) (tgt := 255) (by decide) dX12_term1_242 (by decide) (by decide) (by decide) ?_
                  refine tz_iconst (pc := 255) dX12_term1_255 ?_
                  refine tz_istore (pc := 256) (L2 := [_, _, _, _, _, _, _]) dX12_term1_256 (by decide) rfl ?_
                  refine tz_aload_n (pc := 258) dX12_term1_258 rfl rfl ?_
                  refine tz_bipush (pc := 259) dX12_term1_259 (by decide) ?_
                  refine tz_cV (pc := 261) (z_sign hl n _ _ (by decide) _ x_195 s_195 (q_195).2.1 (by decide)) vl_X12_296 dX12_term1_261 o_164 rfl rfl (Nat.le_of_ble_eq_true rfl) ⟨(show 3 + 1 ≤ 6 + 1 * (r9 + 1) by omega), (show 8 + (2 + 11) + 40 * (3) ≤ 40 * (6 + 1 * (r9 + 1)) by omega)⟩ rfl rfl (Nat.le_of_ble_eq_true rfl) (Nat.le_of_ble_eq_true rfl) (fun r9 J_261 hq9 => ?_)
                  obtain ⟨rfl, w_261, b_261, x_261⟩ := hq9
                  have q_261 := MRT.w q_195 w_261
                  have s_261 := s_195.p (c := 41)
                  clear b_261
                  refine tz_aload_n (pc := 264) dX12_term1_264 rfl rfl ?_
                  refine tz_fI (pc := 265) (kz := 43) (v := (J_261 164 43)) dX12_term1_265 fl_X12_273 i_164_43 rfl rfl (fun r_265 => ?_)
                  refine tz_if_ne (pc := 268) (tgt := 285) dX12_term1_268 (by decide) (by omega) (fun h_268 => ?_) (fun h_268 => ?_)
                  · refine tz_iconst (pc := 285) dX12_term1_285 ?_
                    exact tz_iret (pc := 286) (z := 0) dX12_term1_286 rfl (Nat.le_of_ble_eq_true rfl) (Nat.le_of_ble_eq_true rfl) ⟨Nat.le_refl _, Nat.le_add_right _ _⟩ ⟨_, rfl, (by decide), (by have e9 : pT (r9 + 1) g x = (if ((pP (pT r9 (pP (pN g) 40) (x + 1)).1 41)) 0 4 = 0 then pMd ((pP (pT r9 (pP (pN g) 40) (x + 1)).1 41)) (psy g (g 1 (g 0 1))) (pT r9 (pP (pN g) 40) (x + 1)).2 0 0 else ((pP (pT r9 (pP (pN g) 40) (x + 1)).1 41), 0)) := (by rw [pT_s, if_pos h0, if_neg (by have := hT.1.sg (c := 63) (by decide); omega), if_pos (by have := hT.1.so; omega), if_pos (by have := hT.1.so; omega), if_pos (by omega)]; unfold pC; rw [hgA]; unfold pA4 pA3 pA2 pA1; simp only [show ((0 : Int) < 1) by decide, show ¬ ((1 : Int) < 1) by decide, show ¬ ((2 : Int) < 1) by decide, if_true, if_false]); have n9 := x_261.no (by omega); exact ⟨m_195, q_261, fun q9 => by omega, by rw [e9, if_neg n9]; exact x_261, fun q9 => absurd (show ((pP (pT r9 (pP (pN g) 40) (x + 1)).1 41)) 0 4 = 0 from by rw [e9, if_neg n9] at q9; exact q9) n9⟩)⟩
                  · refine tz_aload_n (pc := 271) dX12_term1_271 rfl rfl ?_
                    refine tz_iload_n (pc := 272) dX12_term1_272 rfl rfl ?_
                    refine tz_iload (pc := 273) dX12_term1_273 rfl ?_
                    refine tz_iload (pc := 275) dX12_term1_275 rfl ?_
                    refine tz_iload (pc := 277) dX12_term1_277 rfl ?_
                    have hb_261 : J_261 164 43 = 0 := h_268
                    have hb_195 := w_261.2.2.1 hb_261
                    have hv_195 := h_195 hb_195
                    refine tz_cV (pc := 279) (z_tm1 hl n _ _ _ _ _ (by omega) hz_195 (by decide) (by decide) s m_195 _ (q_261).1.1.1 (by omega) ⟨by omega, ((congrFun ((q_261).c 170 rfl) _).trans hk9)⟩ (q_261).2.2.2.2 ⟨fun _ => ⟨hv_195.1, by omega⟩, fun g9 => absurd g9 (by decide), fun g9 => absurd g9 (by decide)⟩ h_268 x_261) vl_X12_107 dX12_term1_279 o_164 rfl rfl (Nat.le_of_ble_eq_true rfl) ⟨(show 2 + 1 ≤ 6 + 1 * (r9 + 1) by omega), (show 8 + (8 + 11) + 40 * (2) ≤ 40 * (6 + 1 * (r9 + 1)) by omega)⟩ rfl rfl (Nat.le_of_ble_eq_true rfl) (Nat.le_of_ble_eq_true rfl) (fun r9 J_279 hq9 => ?_)
                    obtain ⟨z_279, rfl, hz_279, ⟨m_279, g_279, h_279⟩, x_279, y_279⟩ := hq9
                    have q_279 := MRT.t q_261 g_279 (by omega)
                    refine tz_goto (pc := 282) (tgt := 286) dX12_term1_282 (by decide) ?_
                    exact tz_iret (pc := 286) (z := z_279) dX12_term1_286 rfl (Nat.le_of_ble_eq_true rfl) (Nat.le_of_ble_eq_true rfl) ⟨Nat.le_refl _, Nat.le_add_right _ _⟩ ⟨_, rfl, (by omega), (by have e9 : pT (r9 + 1) g x = (if ((pP (pT r9 (pP (pN g) 40) (x + 1)).1 41)) 0 4 = 0 then pMd ((pP (pT r9 (pP (pN g) 40) (x + 1)).1 41)) (psy g (g 1 (g 0 1))) (pT r9 (pP (pN g) 40) (x + 1)).2 0 0 else ((pP (pT r9 (pP (pN g) 40) (x + 1)).1 41), 0)) := (by rw [pT_s, if_pos h0, if_neg (by have := hT.1.sg (c := 63) (by decide); omega), if_pos (by have := hT.1.so; omega), if_pos (by have := hT.1.so; omega), if_pos (by omega)]; unfold pC; rw [hgA]; unfold pA4 pA3 pA2 pA1; simp only [show ((0 : Int) < 1) by decide, show ¬ ((1 : Int) < 1) by decide, show ¬ ((2 : Int) < 1) by decide, if_true, if_false]); have e8 : (if ((pP (pT r9 (pP (pN g) 40) (x + 1)).1 41)) 0 4 = 0 then pMd ((pP (pT r9 (pP (pN g) 40) (x + 1)).1 41)) (psy g (g 1 (g 0 1))) (pT r9 (pP (pN g) 40) (x + 1)).2 0 0 else ((pP (pT r9 (pP (pN g) 40) (x + 1)).1 41), 0)) = (if ((pP (pT r9 (pP (pN g) 40) (x + 1)).1 41)) 0 4 = 0 then pMd ((pP (pT r9 (pP (pN g) 40) (x + 1)).1 41)) z_107 z_195 0 0 else ((pP (pT r9 (pP (pN g) 40) (x + 1)).1 41), 0)) := (by by_cases q9 : ((pP (pT r9 (pP (pN g) 40) (x + 1)).1 41)) 0 4 = 0; (rw [if_pos q9, if_pos q9]; have f_1 : (pT r9 (pP (pN g) 40) (x + 1)).1 0 4 = 0 := (Classical.byContradiction (fun e => e (by rw [pP_f e] at q9; exact q9))); rw [← hz9.1, ← y_195 f_1]); rw [if_neg q9, if_neg q9]); exact ⟨m_279, q_279, fun _ => h_279, by rw [e9, e8]; exact x_279, by rw [e9, e8]; exact y_279⟩)⟩
                · rw [hk9] at hgA ⊢
                  refine tz_istore_n (pc := 171) (L2 := [_, _, _, _, _, _, _]) dX12_term1_171 rfl (by decide) rfl ?_
                  refine tz_iconst (pc := 172) dX12_term1_172 ?_
                  refine tz_istore (pc := 173) (L2 := [_, _, _, _, _, _, _]) dX12_term1_173 (by decide) rfl ?_
                  refine tz_iconst (pc := 175) dX12_term1_175 ?_
                  refine tz_istore (pc := 176) (L2 := [_, _, _, _, _, _, _]) dX12_term1_176 (by decide) rfl ?_
                  refine tz_iconst (pc := 178) dX12_term1_178 ?_
                  refine tz_istore (pc := 179) (L2 := [_, _, _, _, _, _, _]) dX12_term1_179 (by decide) rfl ?_
                  refine tz_iload_n (pc := 181) dX12_term1_181 rfl rfl ?_
                  refine tz_if_leF (pc := 182) (tgt := 264) (by decide) dX12_term1_182 (by decide) (by decide) ?_
                  refine tz_aload_n (pc := 185) dX12_term1_185 rfl rfl ?_
                  refine tz_bipush (pc := 186) dX12_term1_186 (by decide) ?_
                  refine tz_cV (pc := 188) (z_sign hl n _ _ (by decide) _ x_159 s_159 (q_159).2.1 (by decide)) vl_X12_296 dX12_term1_188 o_164 rfl rfl (Nat.le_of_ble_eq_true rfl) ⟨(show 3 + 1 ≤ 6 + 1 * (r9 + 1) by omega), (show 8 + (2 + 11) + 40 * (3) ≤ 40 * (6 + 1 * (r9 + 1)) by omega)⟩ rfl rfl (Nat.le_of_ble_eq_true rfl) (Nat.le_of_ble_eq_true rfl) (fun r9 J_188 hq9 => ?_)
                  obtain ⟨rfl, w_188, b_188, x_188⟩ := hq9
                  have q_188 := MRT.w q_159 w_188
                  have s_188 := s_159.p (c := 40)
                  clear b_188
                  refine tz_aload_n (pc := 191) dX12_term1_191 rfl rfl ?_
                  refine tz_iload_n (pc := 192) dX12_term1_192 rfl rfl ?_
                  refine tz_iconst (pc := 193) dX12_term1_193 ?_
                  refine tz_iadd (pc := 194) (v := x + 1) dX12_term1_194 rfl ?_
                  refine tz_cV (pc := 195) (ih _ _ (by omega) s m _ (q_188).1.1.1 (q_188).2.1 (q_188).2.2.2.2 (((q_188).f 44 rfl).trans h44) (by omega) x_188 s_188 (by omega)) vl_X12_298 dX12_term1_195 o_164 rfl rfl (Nat.le_of_ble_eq_true rfl) ⟨(show (6 + 1 * r9) + 1 ≤ 6 + 1 * (r9 + 1) by omega), (show 8 + (7 + 11) + 40 * ((6 + 1 * r9)) ≤ 40 * (6 + 1 * (r9 + 1)) by omega)⟩ rfl rfl (Nat.le_of_ble_eq_true rfl) (Nat.le_of_ble_eq_true rfl) (fun r9 J_195 hq9 => ?_)
                  obtain ⟨z_195, rfl, hz_195, m_195, w_195, h_195, x_195, y_195⟩ := hq9
                  have q_195 := MRT.tr q_188 w_195
                  have l_195 := w_195.1.1.2
                  have s_195 := SI.t r9 _ (x + 1) s_188
                  refine tz_istore (pc := 198) (L2 := [_, _, _, _, _, _, _]) dX12_term1_198 (by decide) rfl ?_
                  refine tz_iload_n (pc := 200) dX12_term1_200 rfl rfl ?_
                  refine tz_iconst (pc := 201) dX12_term1_201 ?_
                  refine tz_icmp_leF (pc := 202) (tgt := 211) (by decide) dX12_term1_202 (by decide) (by decide) (by decide) ?_
                  refine tz_aload_n (pc := 205) dX12_term1_205 rfl rfl ?_
                  refine tz_bipush (pc := 206) dX12_term1_206 (by decide) ?_
                  refine tz_cV (pc := 208) (z_sign hl n _ _ (by decide) _ x_195 s_195 (q_195).2.1 (by decide)) vl_X12_296 dX12_term1_208 o_164 rfl rfl (Nat.le_of_ble_eq_true rfl) ⟨(show 3 + 1 ≤ 6 + 1 * (r9 + 1) by omega), (show 8 + (2 + 11) + 40 * (3) ≤ 40 * (6 + 1 * (r9 + 1)) by omega)⟩ rfl rfl (Nat.le_of_ble_eq_true rfl) (Nat.le_of_ble_eq_true rfl) (fun r9 J_208 hq9 => ?_)
                  obtain ⟨rfl, w_208, b_208, x_208⟩ := hq9
                  have q_208 := MRT.w q_195 w_208
                  have s_208 := s_195.p (c := 44)
                  clear b_208
                  refine tz_iload_n (pc := 211) dX12_term1_211 rfl rfl ?_
                  refine tz_iconst (pc := 212) dX12_term1_212 ?_
                  refine tz_icmp_leF (pc := 213) (tgt := 226) (by decide) dX12_term1_213 (by decide) (by decide) (by decide) ?_
                  refine tz_aload_n (pc := 216) dX12_term1_216 rfl rfl ?_
                  refine tz_iload_n (pc := 217) dX12_term1_217 rfl rfl ?_
                  refine tz_iconst (pc := 218) dX12_term1_218 ?_
                  refine tz_iadd (pc := 219) (v := x + 1) dX12_term1_219 rfl ?_
                  refine tz_cV (pc := 220) (ih _ _ (by omega) s m_195 _ (q_208).1.1.1 (q_208).2.1 (q_208).2.2.2.2 (((q_208).f 44 rfl).trans h44) (by omega) x_208 s_208 (by omega)) vl_X12_298 dX12_term1_220 o_164 rfl rfl (Nat.le_of_ble_eq_true rfl) ⟨(show (6 + 1 * r9) + 1 ≤ 6 + 1 * (r9 + 1) by omega), (show 8 + (7 + 11) + 40 * ((6 + 1 * r9)) ≤ 40 * (6 + 1 * (r9 + 1)) by omega)⟩ rfl rfl (Nat.le_of_ble_eq_true rfl) (Nat.le_of_ble_eq_true rfl) (fun r9 J_220 hq9 => ?_)
                  obtain ⟨z_220, rfl, hz_220, m_220, w_220, h_220, x_220, y_220⟩ := hq9
                  have q_220 := MRT.tr q_208 w_220
                  have l_220 := w_220.1.1.2
                  have s_220 := SI.t r9 _ (x + 1) s_208
                  refine tz_goto (pc := 223) (tgt := 227) dX12_term1_223 (by decide) ?_
                  refine tz_istore (pc := 227) (L2 := [_, _, _, _, _, _, _]) dX12_term1_227 (by decide) rfl ?_
                  refine tz_iload_n (pc := 229) dX12_term1_229 rfl rfl ?_
                  refine tz_iconst (pc := 230) dX12_term1_230 ?_
                  refine tz_icmp_leT (pc := 231) (tgt := 240) (by decide) dX12_term1_231 (by decide) (by decide) (by decide) ?_
                  refine tz_iload_n (pc := 240) dX12_term1_240 rfl rfl ?_
                  refine tz_iconst (pc := 241) dX12_term1_241 ?_
                  refine tz_icmp_leT (pc := 242) (tgt := 255) (by decide) dX12_term1_242 (by decide) (by decide) (by decide) ?_
                  refine tz_iconst (pc := 255) dX12_term1_255 ?_
                  refine tz_istore (pc := 256) (L2 := [_, _, _, _, _, _, _]) dX12_term1_256 (by decide) rfl ?_
                  refine tz_aload_n (pc := 258) dX12_term1_258 rfl rfl ?_
                  refine tz_bipush (pc := 259) dX12_term1_259 (by decide) ?_
                  refine tz_cV (pc := 261) (z_sign hl n _ _ (by decide) _ x_220 s_220 (q_220).2.1 (by decide)) vl_X12_296 dX12_term1_261 o_164 rfl rfl (Nat.le_of_ble_eq_true rfl) ⟨(show 3 + 1 ≤ 6 + 1 * (r9 + 1) by omega), (show 8 + (2 + 11) + 40 * (3) ≤ 40 * (6 + 1 * (r9 + 1)) by omega)⟩ rfl rfl (Nat.le_of_ble_eq_true rfl) (Nat.le_of_ble_eq_true rfl) (fun r9 J_261 hq9 => ?_)
                  obtain ⟨rfl, w_261, b_261, x_261⟩ := hq9
                  have q_261 := MRT.w q_220 w_261
                  have s_261 := s_220.p (c := 41)
                  clear b_261
                  refine tz_aload_n (pc := 264) dX12_term1_264 rfl rfl ?_
                  refine tz_fI (pc := 265) (kz := 43) (v := (J_261 164 43)) dX12_term1_265 fl_X12_273 i_164_43 rfl rfl (fun r_265 => ?_)
                  refine tz_if_ne (pc := 268) (tgt := 285) dX12_term1_268 (by decide) (by omega) (fun h_268 => ?_) (fun h_268 => ?_)
                  · refine tz_iconst (pc := 285) dX12_term1_285 ?_
                    exact tz_iret (pc := 286) (z := 0) dX12_term1_286 rfl (Nat.le_of_ble_eq_true rfl) (Nat.le_of_ble_eq_true rfl) ⟨Nat.le_refl _, Nat.le_add_right _ _⟩ ⟨_, rfl, (by decide), (by have e9 : pT (r9 + 1) g x = (if ((pP (pT r9 (pP (pT r9 (pP (pN g) 40) (x + 1)).1 44) (x + 1)).1 41)) 0 4 = 0 then pMd ((pP (pT r9 (pP (pT r9 (pP (pN g) 40) (x + 1)).1 44) (x + 1)).1 41)) (psy g (g 1 (g 0 1))) (pT r9 (pP (pN g) 40) (x + 1)).2 (pT r9 (pP (pT r9 (pP (pN g) 40) (x + 1)).1 44) (x + 1)).2 0 else ((pP (pT r9 (pP (pT r9 (pP (pN g) 40) (x + 1)).1 44) (x + 1)).1 41), 0)) := (by rw [pT_s, if_pos h0, if_neg (by have := hT.1.sg (c := 63) (by decide); omega), if_pos (by have := hT.1.so; omega), if_pos (by have := hT.1.so; omega), if_pos (by omega)]; unfold pC; rw [hgA]; unfold pA4 pA3 pA2 pA1; simp only [show ((0 : Int) < 2) by decide, show ((1 : Int) < 2) by decide, show ¬ ((2 : Int) < 2) by decide, if_true, if_false]); have n9 := x_261.no (by omega); exact ⟨m_220, q_261, fun q9 => by omega, by rw [e9, if_neg n9]; exact x_261, fun q9 => absurd (show ((pP (pT r9 (pP (pT r9 (pP (pN g) 40) (x + 1)).1 44) (x + 1)).1 41)) 0 4 = 0 from by rw [e9, if_neg n9] at q9; exact q9) n9⟩)⟩
                  · refine tz_aload_n (pc := 271) dX12_term1_271 rfl rfl ?_
                    refine tz_iload_n (pc := 272) dX12_term1_272 rfl rfl ?_
                    refine tz_iload (pc := 273) dX12_term1_273 rfl ?_
                    refine tz_iload (pc := 275) dX12_term1_275 rfl ?_
                    refine tz_iload (pc := 277) dX12_term1_277 rfl ?_
                    have hb_261 : J_261 164 43 = 0 := h_268
                    have hb_220 := w_261.2.2.1 hb_261
                    have hb_208 := w_220.2.2.1 hb_220
                    have hb_195 := w_208.2.2.1 hb_208
                    have hv_195 := h_195 hb_195
                    have hv_220 := h_220 hb_220
                    refine tz_cV (pc := 279) (z_tm2 hl n _ _ _ _ _ (by omega) hz_195 hz_220 (by decide) s m_220 _ (q_261).1.1.1 (by omega) ⟨by omega, ((congrFun ((q_261).c 170 rfl) _).trans hk9)⟩ (q_261).2.2.2.2 ⟨fun _ => ⟨hv_195.1, by omega⟩, fun _ => ⟨hv_220.1, by omega⟩, fun g9 => absurd g9 (by decide)⟩ h_268 x_261) vl_X12_107 dX12_term1_279 o_164 rfl rfl (Nat.le_of_ble_eq_true rfl) ⟨(show 2 + 1 ≤ 6 + 1 * (r9 + 1) by omega), (show 8 + (8 + 11) + 40 * (2) ≤ 40 * (6 + 1 * (r9 + 1)) by omega)⟩ rfl rfl (Nat.le_of_ble_eq_true rfl) (Nat.le_of_ble_eq_true rfl) (fun r9 J_279 hq9 => ?_)
                    obtain ⟨z_279, rfl, hz_279, ⟨m_279, g_279, h_279⟩, x_279, y_279⟩ := hq9
                    have q_279 := MRT.t q_261 g_279 (by omega)
                    refine tz_goto (pc := 282) (tgt := 286) dX12_term1_282 (by decide) ?_
                    exact tz_iret (pc := 286) (z := z_279) dX12_term1_286 rfl (Nat.le_of_ble_eq_true rfl) (Nat.le_of_ble_eq_true rfl) ⟨Nat.le_refl _, Nat.le_add_right _ _⟩ ⟨_, rfl, (by omega), (by have e9 : pT (r9 + 1) g x = (if ((pP (pT r9 (pP (pT r9 (pP (pN g) 40) (x + 1)).1 44) (x + 1)).1 41)) 0 4 = 0 then pMd ((pP (pT r9 (pP (pT r9 (pP (pN g) 40) (x + 1)).1 44) (x + 1)).1 41)) (psy g (g 1 (g 0 1))) (pT r9 (pP (pN g) 40) (x + 1)).2 (pT r9 (pP (pT r9 (pP (pN g) 40) (x + 1)).1 44) (x + 1)).2 0 else ((pP (pT r9 (pP (pT r9 (pP (pN g) 40) (x + 1)).1 44) (x + 1)).1 41), 0)) := (by rw [pT_s, if_pos h0, if_neg (by have := hT.1.sg (c := 63) (by decide); omega), if_pos (by have := hT.1.so; omega), if_pos (by have := hT.1.so; omega), if_pos (by omega)]; unfold pC; rw [hgA]; unfold pA4 pA3 pA2 pA1; simp only [show ((0 : Int) < 2) by decide, show ((1 : Int) < 2) by decide, show ¬ ((2 : Int) < 2) by decide, if_true, if_false]); have e8 : (if ((pP (pT r9 (pP (pT r9 (pP (pN g) 40) (x + 1)).1 44) (x + 1)).1 41)) 0 4 = 0 then pMd ((pP (pT r9 (pP (pT r9 (pP (pN g) 40) (x + 1)).1 44) (x + 1)).1 41)) (psy g (g 1 (g 0 1))) (pT r9 (pP (pN g) 40) (x + 1)).2 (pT r9 (pP (pT r9 (pP (pN g) 40) (x + 1)).1 44) (x + 1)).2 0 else ((pP (pT r9 (pP (pT r9 (pP (pN g) 40) (x + 1)).1 44) (x + 1)).1 41), 0)) = (if ((pP (pT r9 (pP (pT r9 (pP (pN g) 40) (x + 1)).1 44) (x + 1)).1 41)) 0 4 = 0 then pMd ((pP (pT r9 (pP (pT r9 (pP (pN g) 40) (x + 1)).1 44) (x + 1)).1 41)) z_107 z_195 z_220 0 else ((pP (pT r9 (pP (pT r9 (pP (pN g) 40) (x + 1)).1 44) (x + 1)).1 41), 0)) := (by by_cases q9 : ((pP (pT r9 (pP (pT r9 (pP (pN g) 40) (x + 1)).1 44) (x + 1)).1 41)) 0 4 = 0; (rw [if_pos q9, if_pos q9]; have f_2 : (pT r9 (pP (pT r9 (pP (pN g) 40) (x + 1)).1 44) (x + 1)).1 0 4 = 0 := (Classical.byContradiction (fun e => e (by rw [pP_f e] at q9; exact q9))); have f_1 : (pT r9 (pP (pN g) 40) (x + 1)).1 0 4 = 0 := (Classical.byContradiction (fun e => e (by have q8 := f_2; rw [pP_f e, pT_f e] at q8; exact q8))); rw [← hz9.1, ← y_195 f_1, ← y_220 f_2]); rw [if_neg q9, if_neg q9]); exact ⟨m_279, q_279, fun _ => h_279, by rw [e9, e8]; exact x_279, by rw [e9, e8]; exact y_279⟩)⟩
                · rw [hk9] at hgA ⊢
                  refine tz_istore_n (pc := 171) (L2 := [_, _, _, _, _, _, _]) dX12_term1_171 rfl (by decide) rfl ?_
                  refine tz_iconst (pc := 172) dX12_term1_172 ?_
                  refine tz_istore (pc := 173) (L2 := [_, _, _, _, _, _, _]) dX12_term1_173 (by decide) rfl ?_
                  refine tz_iconst (pc := 175) dX12_term1_175 ?_
                  refine tz_istore (pc := 176) (L2 := [_, _, _, _, _, _, _]) dX12_term1_176 (by decide) rfl ?_
                  refine tz_iconst (pc := 178) dX12_term1_178 ?_
                  refine tz_istore (pc := 179) (L2 := [_, _, _, _, _, _, _]) dX12_term1_179 (by decide) rfl ?_
                  refine tz_iload_n (pc := 181) dX12_term1_181 rfl rfl ?_
                  refine tz_if_leF (pc := 182) (tgt := 264) (by decide) dX12_term1_182 (by decide) (by decide) ?_
                  refine tz_aload_n (pc := 185) dX12_term1_185 rfl rfl ?_
                  refine tz_bipush (pc := 186) dX12_term1_186 (by decide) ?_
                  refine tz_cV (pc := 188) (z_sign hl n _ _ (by decide) _ x_159 s_159 (q_159).2.1 (by decide)) vl_X12_296 dX12_term1_188 o_164 rfl rfl (Nat.le_of_ble_eq_true rfl) ⟨(show 3 + 1 ≤ 6 + 1 * (r9 + 1) by omega), (show 8 + (2 + 11) + 40 * (3) ≤ 40 * (6 + 1 * (r9 + 1)) by omega)⟩ rfl rfl (Nat.le_of_ble_eq_true rfl) (Nat.le_of_ble_eq_true rfl) (fun r9 J_188 hq9 => ?_)
                  obtain ⟨rfl, w_188, b_188, x_188⟩ := hq9
                  have q_188 := MRT.w q_159 w_188
                  have s_188 := s_159.p (c := 40)
                  clear b_188
                  refine tz_aload_n (pc := 191) dX12_term1_191 rfl rfl ?_
                  refine tz_iload_n (pc := 192) dX12_term1_192 rfl rfl ?_
                  refine tz_iconst (pc := 193) dX12_term1_193 ?_
                  refine tz_iadd (pc := 194) (v := x + 1) dX12_term1_194 rfl ?_
                  refine tz_cV (pc := 195) (ih _ _ (by omega) s m _ (q_188).1.1.1 (q_188).2.1 (q_188).2.2.2.2 (((q_188).f 44 rfl).trans h44) (by omega) x_188 s_188 (by omega)) vl_X12_298 dX12_term1_195 o_164 rfl rfl (Nat.le_of_ble_eq_true rfl) ⟨(show (6 + 1 * r9) + 1 ≤ 6 + 1 * (r9 + 1) by omega), (show 8 + (7 + 11) + 40 * ((6 + 1 * r9)) ≤ 40 * (6 + 1 * (r9 + 1)) by omega)⟩ rfl rfl (Nat.le_of_ble_eq_true rfl) (Nat.le_of_ble_eq_true rfl) (fun r9 J_195 hq9 => ?_)
                  obtain ⟨z_195, rfl, hz_195, m_195, w_195, h_195, x_195, y_195⟩ := hq9
                  have q_195 := MRT.tr q_188 w_195
                  have l_195 := w_195.1.1.2
                  have s_195 := SI.t r9 _ (x + 1) s_188
                  refine tz_istore (pc := 198) (L2 := [_, _, _, _, _, _, _]) dX12_term1_198 (by decide) rfl ?_
                  refine tz_iload_n (pc := 200) dX12_term1_200 rfl rfl ?_
                  refine tz_iconst (pc := 201) dX12_term1_201 ?_
                  refine tz_icmp_leF (pc := 202) (tgt := 211) (by decide) dX12_term1_202 (by decide) (by decide) (by decide) ?_
                  refine tz_aload_n (pc := 205) dX12_term1_205 rfl rfl ?_
                  refine tz_bipush (pc := 206) dX12_term1_206 (by decide) ?_
                  refine tz_cV (pc := 208) (z_sign hl n _ _ (by decide) _ x_195 s_195 (q_195).2.1 (by decide)) vl_X12_296 dX12_term1_208 o_164 rfl rfl (Nat.le_of_ble_eq_true rfl) ⟨(show 3 + 1 ≤ 6 + 1 * (r9 + 1) by omega), (show 8 + (2 + 11) + 40 * (3) ≤ 40 * (6 + 1 * (r9 + 1)) by omega)⟩ rfl rfl (Nat.le_of_ble_eq_true rfl) (Nat.le_of_ble_eq_true rfl) (fun r9 J_208 hq9 => ?_)
                  obtain ⟨rfl, w_208, b_208, x_208⟩ := hq9
                  have q_208 := MRT.w q_195 w_208
                  have s_208 := s_195.p (c := 44)
                  clear b_208
                  refine tz_iload_n (pc := 211) dX12_term1_211 rfl rfl ?_
                  refine tz_iconst (pc := 212) dX12_term1_212 ?_
                  refine tz_icmp_leF (pc := 213) (tgt := 226) (by decide) dX12_term1_213 (by decide) (by decide) (by decide) ?_
                  refine tz_aload_n (pc := 216) dX12_term1_216 rfl rfl ?_
                  refine tz_iload_n (pc := 217) dX12_term1_217 rfl rfl ?_
                  refine tz_iconst (pc := 218) dX12_term1_218 ?_
                  refine tz_iadd (pc := 219) (v := x + 1) dX12_term1_219 rfl ?_
                  refine tz_cV (pc := 220) (ih _ _ (by omega) s m_195 _ (q_208).1.1.1 (q_208).2.1 (q_208).2.2.2.2 (((q_208).f 44 rfl).trans h44) (by omega) x_208 s_208 (by omega)) vl_X12_298 dX12_term1_220 o_164 rfl rfl (Nat.le_of_ble_eq_true rfl) ⟨(show (6 + 1 * r9) + 1 ≤ 6 + 1 * (r9 + 1) by omega), (show 8 + (7 + 11) + 40 * ((6 + 1 * r9)) ≤ 40 * (6 + 1 * (r9 + 1)) by omega)⟩ rfl rfl (Nat.le_of_ble_eq_true rfl) (Nat.le_of_ble_eq_true rfl) (fun r9 J_220 hq9 => ?_)
                  obtain ⟨z_220, rfl, hz_220, m_220, w_220, h_220, x_220, y_220⟩ := hq9
                  have q_220 := MRT.tr q_208 w_220
                  have l_220 := w_220.1.1.2
                  have s_220 := SI.t r9 _ (x + 1) s_208
                  refine tz_goto (pc := 223) (tgt := 227) dX12_term1_223 (by decide) ?_
                  refine tz_istore (pc := 227) (L2 := [_, _, _, _, _, _, _]) dX12_term1_227 (by decide) rfl ?_
                  refine tz_iload_n (pc := 229) dX12_term1_229 rfl rfl ?_
                  refine tz_iconst (pc := 230) dX12_term1_230 ?_
                  refine tz_icmp_leF (pc := 231) (tgt := 240) (by decide) dX12_term1_231 (by decide) (by decide) (by decide) ?_
                  refine tz_aload_n (pc := 234) dX12_term1_234 rfl rfl ?_
                  refine tz_bipush (pc := 235) dX12_term1_235 (by decide) ?_
                  refine tz_cV (pc := 237) (z_sign hl n _ _ (by decide) _ x_220 s_220 (q_220).2.1 (by decide)) vl_X12_296 dX12_term1_237 o_164 rfl rfl (Nat.le_of_ble_eq_true rfl) ⟨(show 3 + 1 ≤ 6 + 1 * (r9 + 1) by omega), (show 8 + (2 + 11) + 40 * (3) ≤ 40 * (6 + 1 * (r9 + 1)) by omega)⟩ rfl rfl (Nat.le_of_ble_eq_true rfl) (Nat.le_of_ble_eq_true rfl) (fun r9 J_237 hq9 => ?_)
                  obtain ⟨rfl, w_237, b_237, x_237⟩ := hq9
                  have q_237 := MRT.w q_220 w_237
                  have s_237 := s_220.p (c := 44)
                  clear b_237
                  refine tz_iload_n (pc := 240) dX12_term1_240 rfl rfl ?_
                  refine tz_iconst (pc := 241) dX12_term1_241 ?_
                  refine tz_icmp_leF (pc := 242) (tgt := 255) (by decide) dX12_term1_242 (by decide) (by decide) (by decide) ?_
                  refine tz_aload_n (pc := 245) dX12_term1_245 rfl rfl ?_
                  refine tz_iload_n (pc := 246) dX12_term1_246 rfl rfl ?_
                  refine tz_iconst (pc := 247) dX12_term1_247 ?_
                  refine tz_iadd (pc := 248) (v := x + 1) dX12_term1_248 rfl ?_
                  refine tz_cV (pc := 249) (ih _ _ (by omega) s m_220 _ (q_237).1.1.1 (q_237).2.1 (q_237).2.2.2.2 (((q_237).f 44 rfl).trans h44) (by omega) x_237 s_237 (by omega)) vl_X12_298 dX12_term1_249 o_164 rfl rfl (Nat.le_of_ble_eq_true rfl) ⟨(show (6 + 1 * r9) + 1 ≤ 6 + 1 * (r9 + 1) by omega), (show 8 + (7 + 11) + 40 * ((6 + 1 * r9)) ≤ 40 * (6 + 1 * (r9 + 1)) by omega)⟩ rfl rfl (Nat.le_of_ble_eq_true rfl) (Nat.le_of_ble_eq_true rfl) (fun r9 J_249 hq9 => ?_)
                  obtain ⟨z_249, rfl, hz_249, m_249, w_249, h_249, x_249, y_249⟩ := hq9
                  have q_249 := MRT.tr q_237 w_249
                  have l_249 := w_249.1.1.2
                  have s_249 := SI.t r9 _ (x + 1) s_237
                  refine tz_goto (pc := 252) (tgt := 256) dX12_term1_252 (by decide) ?_
                  refine tz_istore (pc := 256) (L2 := [_, _, _, _, _, _, _]) dX12_term1_256 (by decide) rfl ?_
                  refine tz_aload_n (pc := 258) dX12_term1_258 rfl rfl ?_
                  refine tz_bipush (pc := 259) dX12_term1_259 (by decide) ?_
                  refine tz_cV (pc := 261) (z_sign hl n _ _ (by decide) _ x_249 s_249 (q_249).2.1 (by decide)) vl_X12_296 dX12_term1_261 o_164 rfl rfl (Nat.le_of_ble_eq_true rfl) ⟨(show 3 + 1 ≤ 6 + 1 * (r9 + 1) by omega), (show 8 + (2 + 11) + 40 * (3) ≤ 40 * (6 + 1 * (r9 + 1)) by omega)⟩ rfl rfl (Nat.le_of_ble_eq_true rfl) (Nat.le_of_ble_eq_true rfl) (fun r9 J_261 hq9 => ?_)
                  obtain ⟨rfl, w_261, b_261, x_261⟩ := hq9
                  have q_261 := MRT.w q_249 w_261
                  have s_261 := s_249.p (c := 41)
                  clear b_261
                  refine tz_aload_n (pc := 264) dX12_term1_264 rfl rfl ?_
                  refine tz_fI (pc := 265) (kz := 43) (v := (J_261 164 43)) dX12_term1_265 fl_X12_273 i_164_43 rfl rfl (fun r_265 => ?_)
                  refine tz_if_ne (pc := 268) (tgt := 285) dX12_term1_268 (by decide) (by omega) (fun h_268 => ?_) (fun h_268 => ?_)
                  · refine tz_iconst (pc := 285) dX12_term1_285 ?_
                    exact tz_iret (pc := 286) (z := 0) dX12_term1_286 rfl (Nat.le_of_ble_eq_true rfl) (Nat.le_of_ble_eq_true rfl) ⟨Nat.le_refl _, Nat.le_add_right _ _⟩ ⟨_, rfl, (by decide), (by have e9 : pT (r9 + 1) g x = (if ((pP (pT r9 (pP (pT r9 (pP (pT r9 (pP (pN g) 40) (x + 1)).1 44) (x + 1)).1 44) (x + 1)).1 41)) 0 4 = 0 then pMd ((pP (pT r9 (pP (pT r9 (pP (pT r9 (pP (pN g) 40) (x + 1)).1 44) (x + 1)).1 44) (x + 1)).1 41)) (psy g (g 1 (g 0 1))) (pT r9 (pP (pN g) 40) (x + 1)).2 (pT r9 (pP (pT r9 (pP (pN g) 40) (x + 1)).1 44) (x + 1)).2 (pT r9 (pP (pT r9 (pP (pT r9 (pP (pN g) 40) (x + 1)).1 44) (x + 1)).1 44) (x + 1)).2 else ((pP (pT r9 (pP (pT r9 (pP (pT r9 (pP (pN g) 40) (x + 1)).1 44) (x + 1)).1 44) (x + 1)).1 41), 0)) := (by rw [pT_s, if_pos h0, if_neg (by have := hT.1.sg (c := 63) (by decide); omega), if_pos (by have := hT.1.so; omega), if_pos (by have := hT.1.so; omega), if_pos (by omega)]; unfold pC; rw [hgA]; unfold pA4 pA3 pA2 pA1; simp only [show ((0 : Int) < 3) by decide, show ((1 : Int) < 3) by decide, show ((2 : Int) < 3) by decide, if_true, if_false]); have n9 := x_261.no (by omega); exact ⟨m_249, q_261, fun q9 => by omega, by rw [e9, if_neg n9]; exact x_261, fun q9 => absurd (show ((pP (pT r9 (pP (pT r9 (pP (pT r9 (pP (pN g) 40) (x + 1)).1 44) (x + 1)).1 44) (x + 1)).1 41)) 0 4 = 0 from by rw [e9, if_neg n9] at q9; exact q9) n9⟩)⟩
                  · refine tz_aload_n (pc := 271) dX12_term1_271 rfl rfl ?_
                    refine tz_iload_n (pc := 272) dX12_term1_272 rfl rfl ?_
                    refine tz_iload (pc := 273) dX12_term1_273 rfl ?_
                    refine tz_iload (pc := 275) dX12_term1_275 rfl ?_
                    refine tz_iload (pc := 277) dX12_term1_277 rfl ?_
                    have hb_261 : J_261 164 43 = 0 := h_268
                    have hb_249 := w_261.2.2.1 hb_261
                    have hb_237 := w_249.2.2.1 hb_249
                    have hb_220 := w_237.2.2.1 hb_237
                    have hb_208 := w_220.2.2.1 hb_220
                    have hb_195 := w_208.2.2.1 hb_208
                    have hv_195 := h_195 hb_195
                    have hv_220 := h_220 hb_220
                    have hv_249 := h_249 hb_249
                    refine tz_cV (pc := 279) (z_tm3 hl n _ _ _ _ _ (by omega) hz_195 hz_220 hz_249 s m_249 _ (q_261).1.1.1 (by omega) ⟨by omega, ((congrFun ((q_261).c 170 rfl) _).trans hk9)⟩ (q_261).2.2.2.2 ⟨fun _ => ⟨hv_195.1, by omega⟩, fun _ => ⟨hv_220.1, by omega⟩, fun _ => ⟨hv_249.1, by omega⟩⟩ h_268 x_261) vl_X12_107 dX12_term1_279 o_164 rfl rfl (Nat.le_of_ble_eq_true rfl) ⟨(show 2 + 1 ≤ 6 + 1 * (r9 + 1) by omega), (show 8 + (8 + 11) + 40 * (2) ≤ 40 * (6 + 1 * (r9 + 1)) by omega)⟩ rfl rfl (Nat.le_of_ble_eq_true rfl) (Nat.le_of_ble_eq_true rfl) (fun r9 J_279 hq9 => ?_)
                    obtain ⟨z_279, rfl, hz_279, ⟨m_279, g_279, h_279⟩, x_279, y_279⟩ := hq9
                    have q_279 := MRT.t q_261 g_279 (by omega)
                    refine tz_goto (pc := 282) (tgt := 286) dX12_term1_282 (by decide) ?_
                    exact tz_iret (pc := 286) (z := z_279) dX12_term1_286 rfl (Nat.le_of_ble_eq_true rfl) (Nat.le_of_ble_eq_true rfl) ⟨Nat.le_refl _, Nat.le_add_right _ _⟩ ⟨_, rfl, (by omega), (by have e9 : pT (r9 + 1) g x = (if ((pP (pT r9 (pP (pT r9 (pP (pT r9 (pP (pN g) 40) (x + 1)).1 44) (x + 1)).1 44) (x + 1)).1 41)) 0 4 = 0 then pMd ((pP (pT r9 (pP (pT r9 (pP (pT r9 (pP (pN g) 40) (x + 1)).1 44) (x + 1)).1 44) (x + 1)).1 41)) (psy g (g 1 (g 0 1))) (pT r9 (pP (pN g) 40) (x + 1)).2 (pT r9 (pP (pT r9 (pP (pN g) 40) (x + 1)).1 44) (x + 1)).2 (pT r9 (pP (pT r9 (pP (pT r9 (pP (pN g) 40) (x + 1)).1 44) (x + 1)).1 44) (x + 1)).2 else ((pP (pT r9 (pP (pT r9 (pP (pT r9 (pP (pN g) 40) (x + 1)).1 44) (x + 1)).1 44) (x + 1)).1 41), 0)) := (by rw [pT_s, if_pos h0, if_neg (by have := hT.1.sg (c := 63) (by decide); omega), if_pos (by have := hT.1.so; omega), if_pos (by have := hT.1.so; omega), if_pos (by omega)]; unfold pC; rw [hgA]; unfold pA4 pA3 pA2 pA1; simp only [show ((0 : Int) < 3) by decide, show ((1 : Int) < 3) by decide, show ((2 : Int) < 3) by decide, if_true, if_false]); have e8 : (if ((pP (pT r9 (pP (pT r9 (pP (pT r9 (pP (pN g) 40) (x + 1)).1 44) (x + 1)).1 44) (x + 1)).1 41)) 0 4 = 0 then pMd ((pP (pT r9 (pP (pT r9 (pP (pT r9 (pP (pN g) 40) (x + 1)).1 44) (x + 1)).1 44) (x + 1)).1 41)) (psy g (g 1 (g 0 1))) (pT r9 (pP (pN g) 40) (x + 1)).2 (pT r9 (pP (pT r9 (pP (pN g) 40) (x + 1)).1 44) (x + 1)).2 (pT r9 (pP (pT r9 (pP (pT r9 (pP (pN g) 40) (x + 1)).1 44) (x + 1)).1 44) (x + 1)).2 else ((pP (pT r9 (pP (pT r9 (pP (pT r9 (pP (pN g) 40) (x + 1)).1 44) (x + 1)).1 44) (x + 1)).1 41), 0)) = (if ((pP (pT r9 (pP (pT r9 (pP (pT r9 (pP (pN g) 40) (x + 1)).1 44) (x + 1)).1 44) (x + 1)).1 41)) 0 4 = 0 then pMd ((pP (pT r9 (pP (pT r9 (pP (pT r9 (pP (pN g) 40) (x + 1)).1 44) (x + 1)).1 44) (x + 1)).1 41)) z_107 z_195 z_220 z_249 else ((pP (pT r9 (pP (pT r9 (pP (pT r9 (pP (pN g) 40) (x + 1)).1 44) (x + 1)).1 44) (x + 1)).1 41), 0)) := (by by_cases q9 : ((pP (pT r9 (pP (pT r9 (pP (pT r9 (pP (pN g) 40) (x + 1)).1 44) (x + 1)).1 44) (x + 1)).1 41)) 0 4 = 0; (rw [if_pos q9, if_pos q9]; have f_3 : (pT r9 (pP (pT r9 (pP (pT r9 (pP (pN g) 40) (x + 1)).1 44) (x + 1)).1 44) (x + 1)).1 0 4 = 0 := (Classical.byContradiction (fun e => e (by rw [pP_f e] at q9; exact q9))); have f_2 : (pT r9 (pP (pT r9 (pP (pN g) 40) (x + 1)).1 44) (x + 1)).1 0 4 = 0 := (Classical.byContradiction (fun e => e (by have q8 := f_3; rw [pP_f e, pT_f e] at q8; exact q8))); have f_1 : (pT r9 (pP (pN g) 40) (x + 1)).1 0 4 = 0 := (Classical.byContradiction (fun e => e (by have q8 := f_2; rw [pP_f e, pT_f e] at q8; exact q8))); rw [← hz9.1, ← y_195 f_1, ← y_220 f_2, ← y_249 f_3]); rw [if_neg q9, if_neg q9]); exact ⟨m_279, q_279, fun _ => h_279, by rw [e9, e8]; exact x_279, by rw [e9, e8]; exact y_279⟩)⟩
        · refine tz_aload_n (pc := 48) dX12_term1_48 rfl rfl ?_
          refine tz_iload_n (pc := 49) dX12_term1_49 rfl rfl ?_
          refine tz_bipush (pc := 50) dX12_term1_50 (by decide) ?_
          refine tz_icmp_gt (pc := 52) (tgt := 59) dX12_term1_52 (by decide) (by omega) (by decide) (fun h_52 => ?_) (fun h_52 => ?_)
          · refine tz_iconst (pc := 59) dX12_term1_59 ?_
            refine tz_iconst (pc := 60) dX12_term1_60 ?_
            refine tz_cV (pc := 61) (y_wants hl n _ _ _ (by decide) (by decide) g hR hP (by decide)) vl_X12_276 dX12_term1_61 o_164 rfl rfl (Nat.le_of_ble_eq_true rfl) ⟨(show 0 + 1 ≤ 6 + 1 * (r9 + 1) by omega), (show 8 + (3 + 11) + 40 * (0) ≤ 40 * (6 + 1 * (r9 + 1)) by omega)⟩ rfl rfl (Nat.le_of_ble_eq_true rfl) (Nat.le_of_ble_eq_true rfl) (fun r9 J_61 hq9 => ?_)
            obtain ⟨z_61, rfl, hz_61, w_61, o_61⟩ := hq9
            obtain ⟨rfl, v_61, r_61⟩ : z_61 = 0 ∧ ¬ J_61 164 43 = 0 ∧ RelM J_61 (pF g 2) := by rcases o_61 with q | q | q; exact absurd rfl q.2.1; exact ⟨q.2.2.1, q.2.2.2⟩; exact absurd h0 q.1
            have q_61 := MRT.w g0 w_61
            clear o_61
            refine tz_if_neF (pc := 64) (tgt := 69) (by decide) dX12_term1_64 (by decide) (by decide) ?_
            refine tz_iconst (pc := 67) dX12_term1_67 ?_
            exact tz_iret (pc := 68) (z := 0) dX12_term1_68 rfl (Nat.le_of_ble_eq_true rfl) (Nat.le_of_ble_eq_true rfl) ⟨Nat.le_refl _, Nat.le_add_right _ _⟩ ⟨_, rfl, (by decide), (by have e9 : pT (r9 + 1) g x = (pF g 2, 0) := (by rw [pT_s, if_pos h0, if_pos ((hT.1.sg (c := 63) (by decide)).1 (by omega)), if_neg (by omega)]); exact ⟨m, q_61, fun q9 => absurd q9 v_61, by rw [e9]; exact Or.inr r_61, fun q9 => absurd (r_61.1.trans (by rw [e9] at q9; exact q9)) v_61⟩)⟩
          · refine tz_iconst (pc := 55) dX12_term1_55 ?_
            refine tz_goto (pc := 56) (tgt := 60) dX12_term1_56 (by decide) ?_
            refine tz_iconst (pc := 60) dX12_term1_60 ?_
            refine tz_cV (pc := 61) (y_wants hl n _ _ _ (by decide) (by decide) g hR hP (by decide)) vl_X12_276 dX12_term1_61 o_164 rfl rfl (Nat.le_of_ble_eq_true rfl) ⟨(show 0 + 1 ≤ 6 + 1 * (r9 + 1) by omega), (show 8 + (3 + 11) + 40 * (0) ≤ 40 * (6 + 1 * (r9 + 1)) by omega)⟩ rfl rfl (Nat.le_of_ble_eq_true rfl) (Nat.le_of_ble_eq_true rfl) (fun r9 J_61 hq9 => ?_)
            obtain ⟨z_61, rfl, hz_61, w_61, o_61⟩ := hq9
            obtain ⟨rfl, rfl⟩ : z_61 = 1 ∧ J = J_61 := by rcases o_61 with q | q | q; exact ⟨q.2.2.1, q.2.2.2⟩; exact absurd q.2.1 (by decide); exact absurd h0 q.1
            clear o_61
            refine tz_if_neT (pc := 64) (tgt := 69) (by decide) dX12_term1_64 (by decide) (by decide) ?_
            refine tz_aload_n (pc := 69) dX12_term1_69 rfl rfl ?_
            refine tz_cV (pc := 70) (y_go hl n _ g hR h0 hS) vl_X12_280 dX12_term1_70 o_164 rfl rfl (Nat.le_of_ble_eq_true rfl) ⟨(show 2 + 1 ≤ 6 + 1 * (r9 + 1) by omega), (show 8 + (2 + 11) + 40 * (2) ≤ 40 * (6 + 1 * (r9 + 1)) by omega)⟩ rfl rfl (Nat.le_of_ble_eq_true rfl) (Nat.le_of_ble_eq_true rfl) (fun r9 J_70 hq9 => ?_)
            obtain ⟨rfl, r_70, w_70, u_70⟩ := hq9
            have q_70 := MRT.w g0 w_70
            have s_70 := hS.n
            have x_70 : RelX J_70 (pN g) := Or.inr r_70
            clear u_70
            refine tz_aload_n (pc := 73) dX12_term1_73 rfl rfl ?_
            refine tz_iconst (pc := 74) dX12_term1_74 ?_
            refine tz_bipush (pc := 75) dX12_term1_75 (by decide) ?_
            refine tz_cV (pc := 77) (y_number hl n _ _ _ (by decide) (by decide) (pN g) r_70 s_70 (q_70).2.1 (by decide)) vl_X12_290 dX12_term1_77 o_164 rfl rfl (Nat.le_of_ble_eq_true rfl) ⟨(show 3 + 1 ≤ 6 + 1 * (r9 + 1) by omega), (show 8 + (4 + 11) + 40 * (3) ≤ 40 * (6 + 1 * (r9 + 1)) by omega)⟩ rfl rfl (Nat.le_of_ble_eq_true rfl) (Nat.le_of_ble_eq_true rfl) (fun r9 J_77 hq9 => ?_)
            obtain ⟨z_77, rfl, hz_77, w_77, b_77, r_77, e_77⟩ := hq9
            have q_77 := MRT.w q_70 w_77
            refine tz_istore_n (pc := 80) (L2 := [_, _, _, _, _, _, _]) dX12_term1_80 rfl (by decide) rfl ?_
            refine tz_aload_n (pc := 81) dX12_term1_81 rfl rfl ?_
            refine tz_fI (pc := 82) (kz := 43) (v := (J_77 164 43)) dX12_term1_82 fl_X12_273 i_164_43 rfl rfl (fun r_82 => ?_)
            refine tz_if_ne (pc := 85) (tgt := 96) dX12_term1_85 (by decide) (by omega) (fun h_85 => ?_) (fun h_85 => ?_)
            · refine tz_iconst (pc := 96) dX12_term1_96 ?_
              exact tz_iret (pc := 97) (z := 0) dX12_term1_97 rfl (Nat.le_of_ble_eq_true rfl) (Nat.le_of_ble_eq_true rfl) ⟨Nat.le_refl _, Nat.le_add_right _ _⟩ ⟨_, rfl, (by decide), (by have hU : ¬ (pU (pN g) 0 7).1 0 4 = 0 := (by rw [← r_77.1]; omega); have e9 : pT (r9 + 1) g x = ((pU (pN g) 0 7).1, 0) := (by rw [pT_s, if_pos h0, if_pos ((hT.1.sg (c := 63) (by decide)).1 (by omega)), if_pos (by omega)]; unfold pV; rw [if_neg hU]); exact ⟨m, q_77, fun q9 => by omega, by rw [e9]; exact Or.inr r_77, fun q9 => absurd (by rw [e9] at q9; exact q9) hU⟩)⟩
            · refine tz_aload_n (pc := 88) dX12_term1_88 rfl rfl ?_
              refine tz_iload_n (pc := 89) dX12_term1_89 rfl rfl ?_
              have hU : (pU (pN g) 0 7).1 0 4 = 0 := by rw [← r_77.1]; omega
              have hz7 := e_77 hU
              clear e_77
              have h21 : J_77 164 21 = 0 := (r_77.2.2 hU).2.2.2.1.2.2.1
              refine tz_cV (pc := 90) (x_varTerm hl n _ _ (by omega) s m (q_77).1.1.1 (by omega) h21) vl_X12_180 dX12_term1_90 o_164 rfl rfl (Nat.le_of_ble_eq_true rfl) ⟨(show 3 + 1 ≤ 6 + 1 * (r9 + 1) by omega), (show 8 + (2 + 11) + 40 * (3) ≤ 40 * (6 + 1 * (r9 + 1)) by omega)⟩ rfl rfl (Nat.le_of_ble_eq_true rfl) (Nat.le_of_ble_eq_true rfl) (fun r9 J_90 hq9 => ?_)
              obtain ⟨z_90, rfl, hz_90, t_90⟩ := hq9
              have hA9 : arh (fun k => J_77 170 (10 + k)) (-1 - z_77) = 0 := arh_neg (by omega)
              obtain ⟨m_90, g_90, h_90⟩ := t_90.mg (q_77).1.1.1 hA9 (by omega) h21 (by omega)
              have q_90 := MRT.t q_77 g_90 (by omega)
              have x_90 := r_77.made hU (q_77).1.1.1 hA9 (by omega) (by omega) t_90
              rw [hz7] at x_90
              refine tz_goto (pc := 93) (tgt := 97) dX12_term1_93 (by decide) ?_
              exact tz_iret (pc := 97) (z := z_90) dX12_term1_97 rfl (Nat.le_of_ble_eq_true rfl) (Nat.le_of_ble_eq_true rfl) ⟨Nat.le_refl _, Nat.le_add_right _ _⟩ ⟨_, rfl, (by omega), (by have e9 : pT (r9 + 1) g x = pMd (pU (pN g) 0 7).1 (-1 - (pU (pN g) 0 7).2) 0 0 0 := (by rw [pT_s, if_pos h0, if_pos ((hT.1.sg (c := 63) (by decide)).1 (by omega)), if_pos (by omega)]; unfold pV; rw [if_pos hU]); exact ⟨m_90, q_90, fun _ => h_90, by rw [e9]; exact x_90.1, by rw [e9]; exact x_90.2⟩)⟩
      · refine tz_aload_n (pc := 16) dX12_term1_16 rfl rfl ?_
        refine tz_fI (pc := 17) (kz := 42) (v := (J 164 42)) dX12_term1_17 fl_X12_258 i_164_42 rfl rfl (fun r_17 => ?_)
        refine tz_bipush (pc := 20) dX12_term1_20 (by decide) ?_
        refine tz_icmp_ne (pc := 22) (tgt := 29) dX12_term1_22 (by decide) (by omega) (by decide) (fun h_22 => ?_) (fun h_22 => ?_)
        · refine tz_iconst (pc := 29) dX12_term1_29 ?_
          refine tz_iconst (pc := 30) dX12_term1_30 ?_
          refine tz_cV (pc := 31) (y_wants hl n _ _ _ (by decide) (by decide) g hR hP (by decide)) vl_X12_276 dX12_term1_31 o_164 rfl rfl (Nat.le_of_ble_eq_true rfl) ⟨(show 0 + 1 ≤ 6 + 1 * (r9 + 1) by omega), (show 8 + (3 + 11) + 40 * (0) ≤ 40 * (6 + 1 * (r9 + 1)) by omega)⟩ rfl rfl (Nat.le_of_ble_eq_true rfl) (Nat.le_of_ble_eq_true rfl) (fun r9 J_31 hq9 => ?_)
          obtain ⟨z_31, rfl, hz_31, w_31, o_31⟩ := hq9
          obtain ⟨rfl, v_31, r_31⟩ : z_31 = 0 ∧ ¬ J_31 164 43 = 0 ∧ RelM J_31 (pF g 1) := by rcases o_31 with q | q | q; exact absurd rfl q.2.1; exact ⟨q.2.2.1, q.2.2.2⟩; exact absurd h0 q.1
          have q_31 := MRT.w g0 w_31
          clear o_31
          refine tz_if_neF (pc := 34) (tgt := 39) (by decide) dX12_term1_34 (by decide) (by decide) ?_
          refine tz_iconst (pc := 37) dX12_term1_37 ?_
          exact tz_iret (pc := 38) (z := 0) dX12_term1_38 rfl (Nat.le_of_ble_eq_true rfl) (Nat.le_of_ble_eq_true rfl) ⟨Nat.le_refl _, Nat.le_add_right _ _⟩ ⟨_, rfl, (by decide), (by have e9 : pT (r9 + 1) g x = (pF g 1, 0) := (by rw [pT_s, if_pos h0, if_neg (by have := hT.1.sg (c := 63) (by decide); omega), if_neg (by have := hT.1.so; omega)]); exact ⟨m, q_31, fun q9 => absurd q9 v_31, by rw [e9]; exact Or.inr r_31, fun q9 => absurd (r_31.1.trans (by rw [e9] at q9; exact q9)) v_31⟩)⟩
        · refine tz_iconst (pc := 25) dX12_term1_25 ?_
          refine tz_goto (pc := 26) (tgt := 30) dX12_term1_26 (by decide) ?_
          refine tz_iconst (pc := 30) dX12_term1_30 ?_
          refine tz_cV (pc := 31) (y_wants hl n _ _ _ (by decide) (by decide) g hR hP (by decide)) vl_X12_276 dX12_term1_31 o_164 rfl rfl (Nat.le_of_ble_eq_true rfl) ⟨(show 0 + 1 ≤ 6 + 1 * (r9 + 1) by omega), (show 8 + (3 + 11) + 40 * (0) ≤ 40 * (6 + 1 * (r9 + 1)) by omega)⟩ rfl rfl (Nat.le_of_ble_eq_true rfl) (Nat.le_of_ble_eq_true rfl) (fun r9 J_31 hq9 => ?_)
          obtain ⟨z_31, rfl, hz_31, w_31, o_31⟩ := hq9
          obtain ⟨rfl, rfl⟩ : z_31 = 1 ∧ J = J_31 := by rcases o_31 with q | q | q; exact ⟨q.2.2.1, q.2.2.2⟩; exact absurd q.2.1 (by decide); exact absurd h0 q.1
          clear o_31
          refine tz_if_neT (pc := 34) (tgt := 39) (by decide) dX12_term1_34 (by decide) (by decide) ?_
          refine tz_aload_n (pc := 39) dX12_term1_39 rfl rfl ?_
          refine tz_fI (pc := 40) (kz := 42) (v := (J 164 42)) dX12_term1_40 fl_X12_258 i_164_42 rfl rfl (fun r_40 => ?_)
          refine tz_bipush (pc := 43) dX12_term1_43 (by decide) ?_
          refine tz_icmp_ne (pc := 45) (tgt := 98) dX12_term1_45 (by decide) (by omega) (by decide) (fun h_45 => ?_) (fun h_45 => ?_)
          · refine tz_aload_n (pc := 98) dX12_term1_98 rfl rfl ?_
            refine tz_aload_n (pc := 99) dX12_term1_99 rfl rfl ?_
            refine tz_aload_n (pc := 100) dX12_term1_100 rfl rfl ?_
            refine tz_fI (pc := 101) (kz := 36) (v := (J 164 36)) dX12_term1_101 fl_X12_246 i_164_36 rfl rfl (fun r_101 => ?_)
            have hp9 := hP.2.1
            refine tz_cV (pc := 104) (m_byteAt hl n _ _ (by omega) (by omega) hP.1.1.2) vl_X12_240 dX12_term1_104 o_164 rfl rfl (Nat.le_of_ble_eq_true rfl) ⟨(show 0 + 1 ≤ 6 + 1 * (r9 + 1) by omega), (show 8 + (2 + 11) + 40 * (0) ≤ 40 * (6 + 1 * (r9 + 1)) by omega)⟩ rfl rfl (Nat.le_of_ble_eq_true rfl) (Nat.le_of_ble_eq_true rfl) (fun r9 J_104 hq9 => ?_)
            obtain ⟨z_104, rfl, hz_104, rfl, -, hc9⟩ := hq9
            have hq9 : J 164 36 < J 164 37 := by rw [hT.1.1, hT.2.1]; have := hS.2.2; have := hT.1.so; omega
            have hb9 := hc9 hq9
            rw [hT.1.1, hT.2.2.1] at hb9
            refine tz_cV (pc := 107) (x_symOf hl n _ _ (by omega) (by rw [h44]; omega)) vl_X12_293 dX12_term1_107 o_164 rfl rfl (Nat.le_of_ble_eq_true rfl) ⟨(show 0 + 1 ≤ 6 + 1 * (r9 + 1) by omega), (show 8 + (3 + 11) + 40 * (0) ≤ 40 * (6 + 1 * (r9 + 1)) by omega)⟩ rfl rfl (Nat.le_of_ble_eq_true rfl) (Nat.le_of_ble_eq_true rfl) (fun r9 J_107 hq9 => ?_)
            obtain ⟨z_107, rfl, hz_107, rfl, hs9⟩ := hq9
            have hps : fnB (fun k => decide (¬ J 169 (10 + k) = z_104)) (J 164 44) 0 = psy g (g 1 (g 0 1)) := by rw [← hb9]; unfold psy; rw [hT.2.2.2.1.1]; exact fnB_cg (fun j a b => by rw [(hT.2.2.2.2.2.2.2 (10 + j) (by omega) (by rw [← hT.2.2.2.1.1, h44] at b; omega)).1])
            rw [hps, h44] at hs9
            have h4g : g 164 44 = s := by rw [← hT.2.2.2.1.1]; exact h44
            refine tz_istore_n (pc := 110) (L2 := [_, _, _, _, _, _, _]) dX12_term1_110 rfl (by decide) rfl ?_
            refine tz_aload_n (pc := 111) dX12_term1_111 rfl rfl ?_
            refine tz_aload_n (pc := 112) dX12_term1_112 rfl rfl ?_
            refine tz_fI (pc := 113) (kz := 41) (v := (J 164 41)) dX12_term1_113 fl_X12_252 i_164_41 rfl rfl (fun r_113 => ?_)
            refine tz_iconst (pc := 116) dX12_term1_116 ?_
            refine tz_icmp_ne (pc := 117) (tgt := 130) dX12_term1_117 (by decide) (by omega) (by decide) (fun h_117 => ?_) (fun h_117 => ?_)
            · refine tz_iconst (pc := 130) dX12_term1_130 ?_
              refine tz_iconst (pc := 131) dX12_term1_131 ?_
              refine tz_cV (pc := 132) (y_wants hl n _ _ _ (by decide) (by decide) g hR hP (by decide)) vl_X12_276 dX12_term1_132 o_164 rfl rfl (Nat.le_of_ble_eq_true rfl) ⟨(show 0 + 1 ≤ 6 + 1 * (r9 + 1) by omega), (show 8 + (3 + 11) + 40 * (0) ≤ 40 * (6 + 1 * (r9 + 1)) by omega)⟩ rfl rfl (Nat.le_of_ble_eq_true rfl) (Nat.le_of_ble_eq_true rfl) (fun r9 J_132 hq9 => ?_)
              obtain ⟨z_132, rfl, hz_132, w_132, o_132⟩ := hq9
              obtain ⟨rfl, v_132, r_132⟩ : z_132 = 0 ∧ ¬ J_132 164 43 = 0 ∧ RelM J_132 (pF g 2) := by rcases o_132 with q | q | q; exact absurd rfl q.2.1; exact ⟨q.2.2.1, q.2.2.2⟩; exact absurd h0 q.1
              have q_132 := MRT.w g0 w_132
              clear o_132
              refine tz_if_eqT (pc := 135) (tgt := 156) (by decide) dX12_term1_135 (by decide) (by decide) ?_
              refine tz_iconst (pc := 156) dX12_term1_156 ?_
              exact tz_iret (pc := 157) (z := 0) dX12_term1_157 rfl (Nat.le_of_ble_eq_true rfl) (Nat.le_of_ble_eq_true rfl) ⟨Nat.le_refl _, Nat.le_add_right _ _⟩ ⟨_, rfl, (by decide), (by have e9 : pT (r9 + 1) g x = (pF g 2, 0) := (by rw [pT_s, if_pos h0, if_neg (by have := hT.1.sg (c := 63) (by decide); omega), if_pos (by have := hT.1.so; omega), if_neg (by have := hT.1.so; omega)]); exact ⟨m, q_132, fun q9 => absurd q9 v_132, by rw [e9]; exact Or.inr r_132, fun q9 => absurd (r_132.1.trans (by rw [e9] at q9; exact q9)) v_132⟩)⟩
            · refine tz_iload_n (pc := 120) dX12_term1_120 rfl rfl ?_
              refine tz_bipush (pc := 121) dX12_term1_121 (by decide) ?_
              refine tz_icmp_gt (pc := 123) (tgt := 130) dX12_term1_123 (by decide) (by omega) (by decide) (fun h_123 => ?_) (fun h_123 => ?_)
              · refine tz_iconst (pc := 130) dX12_term1_130 ?_
                refine tz_iconst (pc := 131) dX12_term1_131 ?_
                refine tz_cV (pc := 132) (y_wants hl n _ _ _ (by decide) (by decide) g hR hP (by decide)) vl_X12_276 dX12_term1_132 o_164 rfl rfl (Nat.le_of_ble_eq_true rfl) ⟨(show 0 + 1 ≤ 6 + 1 * (r9 + 1) by omega), (show 8 + (3 + 11) + 40 * (0) ≤ 40 * (6 + 1 * (r9 + 1)) by omega)⟩ rfl rfl (Nat.le_of_ble_eq_true rfl) (Nat.le_of_ble_eq_true rfl) (fun r9 J_132 hq9 => ?_)
                obtain ⟨z_132, rfl, hz_132, w_132, o_132⟩ := hq9
                obtain ⟨rfl, v_132, r_132⟩ : z_132 = 0 ∧ ¬ J_132 164 43 = 0 ∧ RelM J_132 (pF g 2) := by rcases o_132 with q | q | q; exact absurd rfl q.2.1; exact ⟨q.2.2.1, q.2.2.2⟩; exact absurd h0 q.1
                have q_132 := MRT.w g0 w_132
                clear o_132
                refine tz_if_eqT (pc := 135) (tgt := 156) (by decide) dX12_term1_135 (by decide) (by decide) ?_
                refine tz_iconst (pc := 156) dX12_term1_156 ?_
                exact tz_iret (pc := 157) (z := 0) dX12_term1_157 rfl (Nat.le_of_ble_eq_true rfl) (Nat.le_of_ble_eq_true rfl) ⟨Nat.le_refl _, Nat.le_add_right _ _⟩ ⟨_, rfl, (by decide), (by have e9 : pT (r9 + 1) g x = (pF g 2, 0) := (by rw [pT_s, if_pos h0, if_neg (by have := hT.1.sg (c := 63) (by decide); omega), if_pos (by have := hT.1.so; omega), if_neg (by have := hT.1.so; omega)]); exact ⟨m, q_132, fun q9 => absurd q9 v_132, by rw [e9]; exact Or.inr r_132, fun q9 => absurd (r_132.1.trans (by rw [e9] at q9; exact q9)) v_132⟩)⟩
              · refine tz_iconst (pc := 126) dX12_term1_126 ?_
                refine tz_goto (pc := 127) (tgt := 131) dX12_term1_127 (by decide) ?_
                refine tz_iconst (pc := 131) dX12_term1_131 ?_
                refine tz_cV (pc := 132) (y_wants hl n _ _ _ (by decide) (by decide) g hR hP (by decide)) vl_X12_276 dX12_term1_132 o_164 rfl rfl (Nat.le_of_ble_eq_true rfl) ⟨(show 0 + 1 ≤ 6 + 1 * (r9 + 1) by omega), (show 8 + (3 + 11) + 40 * (0) ≤ 40 * (6 + 1 * (r9 + 1)) by omega)⟩ rfl rfl (Nat.le_of_ble_eq_true rfl) (Nat.le_of_ble_eq_true rfl) (fun r9 J_132 hq9 => ?_)
                obtain ⟨z_132, rfl, hz_132, w_132, o_132⟩ := hq9
                obtain ⟨rfl, rfl⟩ : z_132 = 1 ∧ J = J_132 := by rcases o_132 with q | q | q; exact ⟨q.2.2.1, q.2.2.2⟩; exact absurd q.2.1 (by decide); exact absurd h0 q.1
                clear o_132
                refine tz_if_eqF (pc := 135) (tgt := 156) (by decide) dX12_term1_135 (by decide) (by decide) ?_
                refine tz_aload_n (pc := 138) dX12_term1_138 rfl rfl ?_
                refine tz_iload_n (pc := 139) dX12_term1_139 rfl rfl ?_
                refine tz_iconst (pc := 140) dX12_term1_140 ?_
                refine tz_icmp_eq (pc := 141) (tgt := 148) dX12_term1_141 (by decide) (by omega) (by decide) (fun h_141 => ?_) (fun h_141 => ?_)
                · refine tz_iconst (pc := 148) dX12_term1_148 ?_
                  refine tz_iconst (pc := 149) dX12_term1_149 ?_
                  refine tz_cV (pc := 150) (y_wants hl n _ _ _ (by decide) (by decide) g hR hP (by decide)) vl_X12_276 dX12_term1_150 o_164 rfl rfl (Nat.le_of_ble_eq_true rfl) ⟨(show 0 + 1 ≤ 6 + 1 * (r9 + 1) by omega), (show 8 + (3 + 11) + 40 * (0) ≤ 40 * (6 + 1 * (r9 + 1)) by omega)⟩ rfl rfl (Nat.le_of_ble_eq_true rfl) (Nat.le_of_ble_eq_true rfl) (fun r9 J_150 hq9 => ?_)
                  obtain ⟨z_150, rfl, hz_150, w_150, o_150⟩ := hq9
                  obtain ⟨rfl, v_150, r_150⟩ : z_150 = 0 ∧ ¬ J_150 164 43 = 0 ∧ RelM J_150 (pF g 3) := by rcases o_150 with q | q | q; exact absurd rfl q.2.1; exact ⟨q.2.2.1, q.2.2.2⟩; exact absurd h0 q.1
                  have q_150 := MRT.w g0 w_150
                  clear o_150
                  refine tz_if_neF (pc := 153) (tgt := 158) (by decide) dX12_term1_153 (by decide) (by decide) ?_
                  refine tz_iconst (pc := 156) dX12_term1_156 ?_
                  exact tz_iret (pc := 157) (z := 0) dX12_term1_157 rfl (Nat.le_of_ble_eq_true rfl) (Nat.le_of_ble_eq_true rfl) ⟨Nat.le_refl _, Nat.le_add_right _ _⟩ ⟨_, rfl, (by decide), (by have e9 : pT (r9 + 1) g x = (pF g 3, 0) := (by rw [pT_s, if_pos h0, if_neg (by have := hT.1.sg (c := 63) (by decide); omega), if_pos (by have := hT.1.so; omega), if_pos (by have := hT.1.so; omega), if_neg (by omega)]); exact ⟨m, q_150, fun q9 => absurd q9 v_150, by rw [e9]; exact Or.inr r_150, fun q9 => absurd (r_150.1.trans (by rw [e9] at q9; exact q9)) v_150⟩)⟩
                · refine tz_iconst (pc := 144) dX12_term1_144 ?_
                  refine tz_goto (pc := 145) (tgt := 149) dX12_term1_145 (by decide) ?_
                  refine tz_iconst (pc := 149) dX12_term1_149 ?_
                  refine tz_cV (pc := 150) (y_wants hl n _ _ _ (by decide) (by decide) g hR hP (by decide)) vl_X12_276 dX12_term1_150 o_164 rfl rfl (Nat.le_of_ble_eq_true rfl) ⟨(show 0 + 1 ≤ 6 + 1 * (r9 + 1) by omega), (show 8 + (3 + 11) + 40 * (0) ≤ 40 * (6 + 1 * (r9 + 1)) by omega)⟩ rfl rfl (Nat.le_of_ble_eq_true rfl) (Nat.le_of_ble_eq_true rfl) (fun r9 J_150 hq9 => ?_)
                  obtain ⟨z_150, rfl, hz_150, w_150, o_150⟩ := hq9
                  obtain ⟨rfl, rfl⟩ : z_150 = 1 ∧ J = J_150 := by rcases o_150 with q | q | q; exact ⟨q.2.2.1, q.2.2.2⟩; exact absurd q.2.1 (by decide); exact absurd h0 q.1
                  clear o_150
                  refine tz_if_neT (pc := 153) (tgt := 158) (by decide) dX12_term1_153 (by decide) (by decide) ?_
                  refine tz_aload_n (pc := 158) dX12_term1_158 rfl rfl ?_
                  refine tz_cV (pc := 159) (y_go hl n _ g hR h0 hS) vl_X12_280 dX12_term1_159 o_164 rfl rfl (Nat.le_of_ble_eq_true rfl) ⟨(show 2 + 1 ≤ 6 + 1 * (r9 + 1) by omega), (show 8 + (2 + 11) + 40 * (2) ≤ 40 * (6 + 1 * (r9 + 1)) by omega)⟩ rfl rfl (Nat.le_of_ble_eq_true rfl) (Nat.le_of_ble_eq_true rfl) (fun r9 J_159 hq9 => ?_)
                  obtain ⟨rfl, r_159, w_159, u_159⟩ := hq9
                  have q_159 := MRT.w g0 w_159
                  have s_159 := hS.n
                  have x_159 : RelX J_159 (pN g) := Or.inr r_159
                  clear u_159
                  refine tz_aload_n (pc := 162) dX12_term1_162 rfl rfl ?_
                  refine tz_fR (pc := 163) dX12_term1_163 fl_X12_25 r_164_5 ?_
                  refine tz_bipush (pc := 166) dX12_term1_166 (by decide) ?_
                  refine tz_iload_n (pc := 168) dX12_term1_168 rfl rfl ?_
                  refine tz_iadd (pc := 169) (v := 10 + z_107) dX12_term1_169 rfl ?_
                  refine tz_aL (pc := 170) (z := (10 + z_107)) (v := (J 170 (10 + z_107))) dX12_term1_170 a_170 rfl (by omega) (Eq.trans (congrFun (w_159.1.1 170 rfl) (10 + z_107)) rfl) (fun r_170 => ?_)
                  have hA8 : 0 ≤ J 170 (10 + z_107) ∧ J 170 (10 + z_107) ≤ 3 := hM.2.2.2.2.2.1.2 z_107 (by omega) (by omega)
                  have hz9 : z_107 = psy g (g 1 (g 0 1)) ∧ psy g (g 1 (g 0 1)) < s := by omega
                  have hgA : (pN g) 170 (10 + psy g (g 1 (g 0 1))) = J 170 (10 + z_107) := by rw [pN_c (c := 170) (by decide), ← hz9.1]; exact ((hT.2.2.2.2.2.2.2 _ (by omega) (by omega)).2.1).symm
                  rcases (show J 170 (10 + z_107) = 0 ∨ J 170 (10 + z_107) = 1 ∨ J 170 (10 + z_107) = 2 ∨ J 170 (10 + z_107) = 3 by omega) with hk9 | hk9 | hk9 | hk9
                  · rw [hk9] at hgA ⊢
                    refine tz_istore_n (pc := 171) (L2 := [_, _, _, _, _, _, _]) dX12_term1_171 rfl (by decide) rfl ?_
                    refine tz_iconst (pc := 172) dX12_term1_172 ?_
                    refine tz_istore (pc := 173) (L2 := [_, _, _, _, _, _, _]) dX12_term1_173 (by decide) rfl ?_
                    refine tz_iconst (pc := 175) dX12_term1_175 ?_
                    refine tz_istore (pc := 176) (L2 := [_, _, _, _, _, _, _]) dX12_term1_176 (by decide) rfl ?_
                    refine tz_iconst (pc := 178) dX12_term1_178 ?_
                    refine tz_istore (pc := 179) (L2 := [_, _, _, _, _, _, _]) dX12_term1_179 (by decide) rfl ?_
                    refine tz_iload_n (pc := 181) dX12_term1_181 rfl rfl ?_
                    refine tz_if_leT (pc := 182) (tgt := 264) (by decide) dX12_term1_182 (by decide) (by decide) ?_
                    refine tz_aload_n (pc := 264) dX12_term1_264 rfl rfl ?_
                    refine tz_fI (pc := 265) (kz := 43) (v := (J_159 164 43)) dX12_term1_265 fl_X12_273 i_164_43 rfl rfl (fun r_265 => ?_)
                    refine tz_if_ne (pc := 268) (tgt := 285) dX12_term1_268 (by decide) (by omega) (fun h_268 => ?_) (fun h_268 => ?_)
                    · refine tz_iconst (pc := 285) dX12_term1_285 ?_
                      exact tz_iret (pc := 286) (z := 0) dX12_term1_286 rfl (Nat.le_of_ble_eq_true rfl) (Nat.le_of_ble_eq_true rfl) ⟨Nat.le_refl _, Nat.le_add_right _ _⟩ ⟨_, rfl, (by decide), (by have e9 : pT (r9 + 1) g x = (if (pN g) 0 4 = 0 then pMd (pN g) (psy g (g 1 (g 0 1)))  0 0 0 else (pN g, 0)) := (by rw [pT_s, if_pos h0, if_neg (by have := hT.1.sg (c := 63) (by decide); omega), if_pos (by have := hT.1.so; omega), if_pos (by have := hT.1.so; omega), if_pos (by omega)]; unfold pC; rw [hgA]; unfold pA4 pA3 pA2 pA1; simp only [show ¬ ((0 : Int) < 0) by decide, show ¬ ((1 : Int) < 0) by decide, show ¬ ((2 : Int) < 0) by decide, if_true, if_false]); have n9 := x_159.no (by omega); exact ⟨m, q_159, fun q9 => by omega, by rw [e9, if_neg n9]; exact x_159, fun q9 => absurd (show (pN g) 0 4 = 0 from by rw [e9, if_neg n9] at q9; exact q9) n9⟩)⟩
                    · refine tz_aload_n (pc := 271) dX12_term1_271 rfl rfl ?_
                      refine tz_iload_n (pc := 272) dX12_term1_272 rfl rfl ?_
                      refine tz_iload (pc := 273) dX12_term1_273 rfl ?_
                      refine tz_iload (pc := 275) dX12_term1_275 rfl ?_
                      refine tz_iload (pc := 277) dX12_term1_277 rfl ?_
                      refine tz_cV (pc := 279) (z_tm0 hl n _ _ _ _ _ (by omega) (by decide) (by decide) (by decide) s m _ (q_159).1.1.1 (by omega) ⟨by omega, ((congrFun ((q_159).c 170 rfl) _).trans hk9)⟩ (q_159).2.2.2.2 ⟨fun g9 => absurd g9 (by decide), fun g9 => absurd g9 (by decide), fun g9 => absurd g9 (by decide)⟩ h_268 x_159) vl_X12_107 dX12_term1_279 o_164 rfl rfl (Nat.le_of_ble_eq_true rfl) ⟨(show 2 + 1 ≤ 6 + 1 * (r9 + 1) by omega), (show 8 + (8 + 11) + 40 * (2) ≤ 40 * (6 + 1 * (r9 + 1)) by omega)⟩ rfl rfl (Nat.le_of_ble_eq_true rfl) (Nat.le_of_ble_eq_true rfl) (fun r9 J_279 hq9 => ?_)
                      obtain ⟨z_279, rfl, hz_279, ⟨m_279, g_279, h_279⟩, x_279, y_279⟩ := hq9
                      have q_279 := MRT.t q_159 g_279 (by omega)
                      refine tz_goto (pc := 282) (tgt := 286) dX12_term1_282 (by decide) ?_
                      exact tz_iret (pc := 286) (z := z_279) dX12_term1_286 rfl (Nat.le_of_ble_eq_true rfl) (Nat.le_of_ble_eq_true rfl) ⟨Nat.le_refl _, Nat.le_add_right _ _⟩ ⟨_, rfl, (by omega), (by have e9 : pT (r9 + 1) g x = (if (pN g) 0 4 = 0 then pMd (pN g) (psy g (g 1 (g 0 1)))  0 0 0 else (pN g, 0)) := (by rw [pT_s, if_pos h0, if_neg (by have := hT.1.sg (c := 63) (by decide); omega), if_pos (by have := hT.1.so; omega), if_pos (by have := hT.1.so; omega), if_pos (by omega)]; unfold pC; rw [hgA]; unfold pA4 pA3 pA2 pA1; simp only [show ¬ ((0 : Int) < 0) by decide, show ¬ ((1 : Int) < 0) by decide, show ¬ ((2 : Int) < 0) by decide, if_true, if_false]); have e8 : (if (pN g) 0 4 = 0 then pMd (pN g) (psy g (g 1 (g 0 1)))  0 0 0 else (pN g, 0)) = (if (pN g) 0 4 = 0 then pMd (pN g) z_107  0 0 0 else (pN g, 0)) := (by by_cases q9 : (pN g) 0 4 = 0; (rw [if_pos q9, if_pos q9]; skip; rw [← hz9.1]); rw [if_neg q9, if_neg q9]); exact ⟨m_279, q_279, fun _ => h_279, by rw [e9, e8]; exact x_279, by rw [e9, e8]; exact y_279⟩)⟩
                  · rw [hk9] at hgA ⊢
                    refine tz_istore_n (pc := 171) (L2 := [_, _, _, _, _, _, _]) dX12_term1_171 rfl (by decide) rfl ?_
                    refine tz_iconst (pc := 172) dX12_term1_172 ?_
                    refine tz_istore (pc := 173) (L2 := [_, _, _, _, _, _, _]) dX12_term1_173 (by decide) rfl ?_
                    refine tz_iconst (pc := 175) dX12_term1_175 ?_
                    refine tz_istore (pc := 176) (L2 := [_, _, _, _, _, _, _]) dX12_term1_176 (by decide) rfl ?_
                    refine tz_iconst (pc := 178) dX12_term1_178 ?_
                    refine tz_istore (pc := 179) (L2 := [_, _, _, _, _, _, _]) dX12_term1_179 (by decide) rfl ?_
                    refine tz_iload_n (pc := 181) dX12_term1_181 rfl rfl ?_
                    refine tz_if_leF (pc := 182) (tgt := 264) (by decide) dX12_term1_182 (by decide) (by decide) ?_
                    refine tz_aload_n (pc := 185) dX12_term1_185 rfl rfl ?_
                    refine tz_bipush (pc := 186) dX12_term1_186 (by decide) ?_
                    refine tz_cV (pc := 188) (z_sign hl n _ _ (by decide) _ x_159 s_159 (q_159).2.1 (by decide)) vl_X12_296 dX12_term1_188 o_164 rfl rfl (Nat.le_of_ble_eq_true rfl) ⟨(show 3 + 1 ≤ 6 + 1 * (r9 + 1) by omega), (show 8 + (2 + 11) + 40 * (3) ≤ 40 * (6 + 1 * (r9 + 1)) by omega)⟩ rfl rfl (Nat.le_of_ble_eq_true rfl) (Nat.le_of_ble_eq_true rfl) (fun r9 J_188 hq9 => ?_)
                    obtain ⟨rfl, w_188, b_188, x_188⟩ := hq9
                    have q_188 := MRT.w q_159 w_188
                    have s_188 := s_159.p (c := 40)
                    clear b_188
                    refine tz_aload_n (pc := 191) dX12_term1_191 rfl rfl ?_
                    refine tz_iload_n (pc := 192) dX12_term1_192 rfl rfl ?_
                    refine tz_iconst (pc := 193) dX12_term1_193 ?_
                    refine tz_iadd (pc := 194) (v := x + 1) dX12_term1_194 rfl ?_
                    refine tz_cV (pc := 195) (ih _ _ (by omega) s m _ (q_188).1.1.1 (q_188).2.1 (q_188).2.2.2.2 (((q_188).f 44 rfl).trans h44) (by omega) x_188 s_188 (by omega)) vl_X12_298 dX12_term1_195 o_164 rfl rfl (Nat.le_of_ble_eq_true rfl) ⟨(show (6 + 1 * r9) + 1 ≤ 6 + 1 * (r9 + 1) by omega), (show 8 + (7 + 11) + 40 * ((6 + 1 * r9)) ≤ 40 * (6 + 1 * (r9 + 1)) by omega)⟩ rfl rfl (Nat.le_of_ble_eq_true rfl) (Nat.le_of_ble_eq_true rfl) (fun r9 J_195 hq9 => ?_)
                    obtain ⟨z_195, rfl, hz_195, m_195, w_195, h_195, x_195, y_195⟩ := hq9
                    have q_195 := MRT.tr q_188 w_195
                    have l_195 := w_195.1.1.2
                    have s_195 := SI.t r9 _ (x + 1) s_188
                    refine tz_istore (pc := 198) (L2 := [_, _, _, _, _, _, _]) dX12_term1_198 (by decide) rfl ?_
                    refine tz_iload_n (pc := 200) dX12_term1_200 rfl rfl ?_
                    refine tz_iconst (pc := 201) dX12_term1_201 ?_
                    refine tz_icmp_leT (pc := 202) (tgt := 211) (by decide) dX12_term1_202 (by decide) (by decide) (by decide) ?_
                    refine tz_iload_n (pc := 211) dX12_term1_211 rfl rfl ?_
                    refine tz_iconst (pc := 212) dX12_term1_212 ?_
                    refine tz_icmp_leT (pc := 213) (tgt := 226) (by decide) dX12_term1_213 (by decide) (by decide) (by decide) ?_
                    refine tz_iconst (pc := 226) dX12_term1_226 ?_
                    refine tz_istore (pc := 227) (L2 := [_, _, _, _, _, _, _]) dX12_term1_227 (by decide) rfl ?_
                    refine tz_iload_n (pc := 229) dX12_term1_229 rfl rfl ?_
                    refine tz_iconst (pc := 230) dX12_term1_230 ?_
                    refine tz_icmp_leT (pc := 231) (tgt := 240) (by decide) dX12_term1_231 (by decide) (by decide) (by decide) ?_
                    refine tz_iload_n (pc := 240) dX12_term1_240 rfl rfl ?_
                    refine tz_iconst (pc := 241) dX12_term1_241 ?_
                    refine tz_icmp_leT (pc := 242) (tgt := 255) (by decide) dX12_term1_242 (by decide) (by decide) (by decide) ?_
                    refine tz_iconst (pc := 255) dX12_term1_255 ?_
                    refine tz_istore (pc := 256) (L2 := [_, _, _, _, _, _, _]) dX12_term1_256 (by decide) rfl ?_
                    refine tz_aload_n (pc := 258) dX12_term1_258 rfl rfl ?_
                    refine tz_bipush (pc := 259) dX12_term1_259 (by decide) ?_
                    refine tz_cV (pc := 261) (z_sign hl n _ _ (by decide) _ x_195 s_195 (q_195).2.1 (by decide)) vl_X12_296 dX12_term1_261 o_164 rfl rfl (Nat.le_of_ble_eq_true rfl) ⟨(show 3 + 1 ≤ 6 + 1 * (r9 + 1) by omega), (show 8 + (2 + 11) + 40 * (3) ≤ 40 * (6 + 1 * (r9 + 1)) by omega)⟩ rfl rfl (Nat.le_of_ble_eq_true rfl) (Nat.le_of_ble_eq_true rfl) (fun r9 J_261 hq9 => ?_)
                    obtain ⟨rfl, w_261, b_261, x_261⟩ := hq9
                    have q_261 := MRT.w q_195 w_261
                    have s_261 := s_195.p (c := 41)
                    clear b_261
                    refine tz_aload_n (pc := 264) dX12_term1_264 rfl rfl ?_
                    refine tz_fI (pc := 265) (kz := 43) (v := (J_261 164 43)) dX12_term1_265 fl_X12_273 i_164_43 rfl rfl (fun r_265 => ?_)
                    refine tz_if_ne (pc := 268) (tgt := 285) dX12_term1_268 (by decide) (by omega) (fun h_268 => ?_) (fun h_268 => ?_)
                    · refine tz_iconst (pc := 285) dX12_term1_285 ?_
                      exact tz_iret (pc := 286) (z := 0) dX12_term1_286 rfl (Nat.le_of_ble_eq_true rfl) (Nat.le_of_ble_eq_true rfl) ⟨Nat.le_refl _, Nat.le_add_right _ _⟩ ⟨_, rfl, (by decide), (by have e9 : pT (r9 + 1) g x = (if ((pP (pT r9 (pP (pN g) 40) (x + 1)).1 41)) 0 4 = 0 then pMd ((pP (pT r9 (pP (pN g) 40) (x + 1)).1 41)) (psy g (g 1 (g 0 1))) (pT r9 (pP (pN g) 40) (x + 1)).2 0 0 else ((pP (pT r9 (pP (pN g) 40) (x + 1)).1 41), 0)) := (by rw [pT_s, if_pos h0, if_neg (by have := hT.1.sg (c := 63) (by decide); omega), if_pos (by have := hT.1.so; omega), if_pos (by have := hT.1.so; omega), if_pos (by omega)]; unfold pC; rw [hgA]; unfold pA4 pA3 pA2 pA1; simp only [show ((0 : Int) < 1) by decide, show ¬ ((1 : Int) < 1) by decide, show ¬ ((2 : Int) < 1) by decide, if_true, if_false]); have n9 := x_261.no (by omega); exact ⟨m_195, q_261, fun q9 => by omega, by rw [e9, if_neg n9]; exact x_261, fun q9 => absurd (show ((pP (pT r9 (pP (pN g) 40) (x + 1)).1 41)) 0 4 = 0 from by rw [e9, if_neg n9] at q9; exact q9) n9⟩)⟩
                    · refine tz_aload_n (pc := 271) dX12_term1_271 rfl rfl ?_
                      refine tz_iload_n (pc := 272) dX12_term1_272 rfl rfl ?_
                      refine tz_iload (pc := 273) dX12_term1_273 rfl ?_
                      refine tz_iload (pc := 275) dX12_term1_275 rfl ?_
                      refine tz_iload (pc := 277) dX12_term1_277 rfl ?_
                      have hb_261 : J_261 164 43 = 0 := h_268
                      have hb_195 := w_261.2.2.1 hb_261
                      have hv_195 := h_195 hb_195
                      refine tz_cV (pc := 279) (z_tm1 hl n _ _ _ _ _ (by omega) hz_195 (by decide) (by decide) s m_195 _ (q_261).1.1.1 (by omega) ⟨by omega, ((congrFun ((q_261).c 170 rfl) _).trans hk9)⟩ (q_261).2.2.2.2 ⟨fun _ => ⟨hv_195.1, by omega⟩, fun g9 => absurd g9 (by decide), fun g9 => absurd g9 (by decide)⟩ h_268 x_261) vl_X12_107 dX12_term1_279 o_164 rfl rfl (Nat.le_of_ble_eq_true rfl) ⟨(show 2 + 1 ≤ 6 + 1 * (r9 + 1) by omega), (show 8 + (8 + 11) + 40 * (2) ≤ 40 * (6 + 1 * (r9 + 1)) by omega)⟩ rfl rfl (Nat.le_of_ble_eq_true rfl) (Nat.le_of_ble_eq_true rfl) (fun r9 J_279 hq9 => ?_)
                      obtain ⟨z_279, rfl, hz_279, ⟨m_279, g_279, h_279⟩, x_279, y_279⟩ := hq9
                      have q_279 := MRT.t q_261 g_279 (by omega)
                      refine tz_goto (pc := 282) (tgt := 286) dX12_term1_282 (by decide) ?_
                      exact tz_iret (pc := 286) (z := z_279) dX12_term1_286 rfl (Nat.le_of_ble_eq_true rfl) (Nat.le_of_ble_eq_true rfl) ⟨Nat.le_refl _, Nat.le_add_right _ _⟩ ⟨_, rfl, (by omega), (by have e9 : pT (r9 + 1) g x = (if ((pP (pT r9 (pP (pN g) 40) (x + 1)).1 41)) 0 4 = 0 then pMd ((pP (pT r9 (pP (pN g) 40) (x + 1)).1 41)) (psy g (g 1 (g 0 1))) (pT r9 (pP (pN g) 40) (x + 1)).2 0 0 else ((pP (pT r9 (pP (pN g) 40) (x + 1)).1 41), 0)) := (by rw [pT_s, if_pos h0, if_neg (by have := hT.1.sg (c := 63) (by decide); omega), if_pos (by have := hT.1.so; omega), if_pos (by have := hT.1.so; omega), if_pos (by omega)]; unfold pC; rw [hgA]; unfold pA4 pA3 pA2 pA1; simp only [show ((0 : Int) < 1) by decide, show ¬ ((1 : Int) < 1) by decide, show ¬ ((2 : Int) < 1) by decide, if_true, if_false]); have e8 : (if ((pP (pT r9 (pP (pN g) 40) (x + 1)).1 41)) 0 4 = 0 then pMd ((pP (pT r9 (pP (pN g) 40) (x + 1)).1 41)) (psy g (g 1 (g 0 1))) (pT r9 (pP (pN g) 40) (x + 1)).2 0 0 else ((pP (pT r9 (pP (pN g) 40) (x + 1)).1 41), 0)) = (if ((pP (pT r9 (pP (pN g) 40) (x + 1)).1 41)) 0 4 = 0 then pMd ((pP (pT r9 (pP (pN g) 40) (x + 1)).1 41)) z_107 z_195 0 0 else ((pP (pT r9 (pP (pN g) 40) (x + 1)).1 41), 0)) := (by by_cases q9 : ((pP (pT r9 (pP (pN g) 40) (x + 1)).1 41)) 0 4 = 0; (rw [if_pos q9, if_pos q9]; have f_1 : (pT r9 (pP (pN g) 40) (x + 1)).1 0 4 = 0 := (Classical.byContradiction (fun e => e (by rw [pP_f e] at q9; exact q9))); rw [← hz9.1, ← y_195 f_1]); rw [if_neg q9, if_neg q9]); exact ⟨m_279, q_279, fun _ => h_279, by rw [e9, e8]; exact x_279, by rw [e9, e8]; exact y_279⟩)⟩
                  · rw [hk9] at hgA ⊢
                    refine tz_istore_n (pc := 171) (L2 := [_, _, _, _, _, _, _]) dX12_term1_171 rfl (by decide) rfl ?_
                    refine tz_iconst (pc := 172) dX12_term1_172 ?_
                    refine tz_istore (pc := 173) (L2 := [_, _, _, _, _, _, _]) dX12_term1_173 (by decide) rfl ?_
                    refine tz_iconst (pc := 175) dX12_term1_175 ?_
                    refine tz_istore (pc := 176) (L2 := [_, _, _, _, _, _, _]) dX12_term1_176 (by decide) rfl ?_
                    refine tz_iconst (pc := 178) dX12_term1_178 ?_
                    refine tz_istore (pc := 179) (L2 := [_, _, _, _, _, _, _]) dX12_term1_179 (by decide) rfl ?_
                    refine tz_iload_n (pc := 181) dX12_term1_181 rfl rfl ?_
                    refine tz_if_leF (pc := 182) (tgt := 264) (by decide) dX12_term1_182 (by decide) (by decide) ?_
                    refine tz_aload_n (pc := 185) dX12_term1_185 rfl rfl ?_
                    refine tz_bipush (pc := 186) dX12_term1_186 (by decide) ?_
                    refine tz_cV (pc := 188) (z_sign hl n _ _ (by decide) _ x_159 s_159 (q_159).2.1 (by decide)) vl_X12_296 dX12_term1_188 o_164 rfl rfl (Nat.le_of_ble_eq_true rfl) ⟨(show 3 + 1 ≤ 6 + 1 * (r9 + 1) by omega), (show 8 + (2 + 11) + 40 * (3) ≤ 40 * (6 + 1 * (r9 + 1)) by omega)⟩ rfl rfl (Nat.le_of_ble_eq_true rfl) (Nat.le_of_ble_eq_true rfl) (fun r9 J_188 hq9 => ?_)
                    obtain ⟨rfl, w_188, b_188, x_188⟩ := hq9
                    have q_188 := MRT.w q_159 w_188
                    have s_188 := s_159.p (c := 40)
                    clear b_188
                    refine tz_aload_n (pc := 191) dX12_term1_191 rfl rfl ?_
                    refine tz_iload_n (pc := 192) dX12_term1_192 rfl rfl ?_
                    refine tz_iconst (pc := 193) dX12_term1_193 ?_
                    refine tz_iadd (pc := 194) (v := x + 1) dX12_term1_194 rfl ?_
                    refine tz_cV (pc := 195) (ih _ _ (by omega) s m _ (q_188).1.1.1 (q_188).2.1 (q_188).2.2.2.2 (((q_188).f 44 rfl).trans h44) (by omega) x_188 s_188 (by omega)) vl_X12_298 dX12_term1_195 o_164 rfl rfl (Nat.le_of_ble_eq_true rfl) ⟨(show (6 + 1 * r9) + 1 ≤ 6 + 1 * (r9 + 1) by omega), (show 8 + (7 + 11) + 40 * ((6 + 1 * r9)) ≤ 40 * (6 + 1 * (r9 + 1)) by omega)⟩ rfl rfl (Nat.le_of_ble_eq_true rfl) (Nat.le_of_ble_eq_true rfl) (fun r9 J_195 hq9 => ?_)
                    obtain ⟨z_195, rfl, hz_195, m_195, w_195, h_195, x_195, y_195⟩ := hq9
                    have q_195 := MRT.tr q_188 w_195
                    have l_195 := w_195.1.1.2
                    have s_195 := SI.t r9 _ (x + 1) s_188
                    refine tz_istore (pc := 198) (L2 := [_, _, _, _, _, _, _]) dX12_term1_198 (by decide) rfl ?_
                    refine tz_iload_n (pc := 200) dX12_term1_200 rfl rfl ?_
                    refine tz_iconst (pc := 201) dX12_term1_201 ?_
                    refine tz_icmp_leF (pc := 202) (tgt := 211) (by decide) dX12_term1_202 (by decide) (by decide) (by decide) ?_
                    refine tz_aload_n (pc := 205) dX12_term1_205 rfl rfl ?_
                    refine tz_bipush (pc := 206) dX12_term1_206 (by decide) ?_
                    refine tz_cV (pc := 208) (z_sign hl n _ _ (by decide) _ x_195 s_195 (q_195).2.1 (by decide)) vl_X12_296 dX12_term1_208 o_164 rfl rfl (Nat.le_of_ble_eq_true rfl) ⟨(show 3 + 1 ≤ 6 + 1 * (r9 + 1) by omega), (show 8 + (2 + 11) + 40 * (3) ≤ 40 * (6 + 1 * (r9 + 1)) by omega)⟩ rfl rfl (Nat.le_of_ble_eq_true rfl) (Nat.le_of_ble_eq_true rfl) (fun r9 J_208 hq9 => ?_)
                    obtain ⟨rfl, w_208, b_208, x_208⟩ := hq9
                    have q_208 := MRT.w q_195 w_208
                    have s_208 := s_195.p (c := 44)
                    clear b_208
                    refine tz_iload_n (pc := 211) dX12_term1_211 rfl rfl ?_
                    refine tz_iconst (pc := 212) dX12_term1_212 ?_
                    refine tz_icmp_leF (pc := 213) (tgt := 226) (by decide) dX12_term1_213 (by decide) (by decide) (by decide) ?_
                    refine tz_aload_n (pc := 216) dX12_term1_216 rfl rfl ?_
                    refine tz_iload_n (pc := 217) dX12_term1_217 rfl rfl ?_
                    refine tz_iconst (pc := 218) dX12_term1_218 ?_
                    refine tz_iadd (pc := 219) (v := x + 1) dX12_term1_219 rfl ?_
                    refine tz_cV (pc := 220) (ih _ _ (by omega) s m_195 _ (q_208).1.1.1 (q_208).2.1 (q_208).2.2.2.2 (((q_208).f 44 rfl).trans h44) (by omega) x_208 s_208 (by omega)) vl_X12_298 dX12_term1_220 o_164 rfl rfl (Nat.le_of_ble_eq_true rfl) ⟨(show (6 + 1 * r9) + 1 ≤ 6 + 1 * (r9 + 1) by omega), (show 8 + (7 + 11) + 40 * ((6 + 1 * r9)) ≤ 40 * (6 + 1 * (r9 + 1)) by omega)⟩ rfl rfl (Nat.le_of_ble_eq_true rfl) (Nat.le_of_ble_eq_true rfl) (fun r9 J_220 hq9 => ?_)
                    obtain ⟨z_220, rfl, hz_220, m_220, w_220, h_220, x_220, y_220⟩ := hq9
                    have q_220 := MRT.tr q_208 w_220
                    have l_220 := w_220.1.1.2
                    have s_220 := SI.t r9 _ (x + 1) s_208
                    refine tz_goto (pc := 223) (tgt := 227) dX12_term1_223 (by decide) ?_
                    refine tz_istore (pc := 227) (L2 := [_, _, _, _, _, _, _]) dX12_term1_227 (by decide) rfl ?_
                    refine tz_iload_n (pc := 229) dX12_term1_229 rfl rfl ?_
                    refine tz_iconst (pc := 230) dX12_term1_230 ?_
                    refine tz_icmp_leT (pc := 231) (tgt := 240) (by decide) dX12_term1_231 (by decide) (by decide) (by decide) ?_
                    refine tz_iload_n (pc := 240) dX12_term1_240 rfl rfl ?_
                    refine tz_iconst (pc := 241) dX12_term1_241 ?_
                    refine tz_icmp_leT (pc := 242) (tgt := 255) (by decide) dX12_term1_242 (by decide) (by decide) (by decide) ?_
                    refine tz_iconst (pc := 255) dX12_term1_255 ?_
                    refine tz_istore (pc := 256) (L2 := [_, _, _, _, _, _, _]) dX12_term1_256 (by decide) rfl ?_
                    refine tz_aload_n (pc := 258) dX12_term1_258 rfl rfl ?_
                    refine tz_bipush (pc := 259) dX12_term1_259 (by decide) ?_
                    refine tz_cV (pc := 261) (z_sign hl n _ _ (by decide) _ x_220 s_220 (q_220).2.1 (by decide)) vl_X12_296 dX12_term1_261 o_164 rfl rfl (Nat.le_of_ble_eq_true rfl) ⟨(show 3 + 1 ≤ 6 + 1 * (r9 + 1) by omega), (show 8 + (2 + 11) + 40 * (3) ≤ 40 * (6 + 1 * (r9 + 1)) by omega)⟩ rfl rfl (Nat.le_of_ble_eq_true rfl) (Nat.le_of_ble_eq_true rfl) (fun r9 J_261 hq9 => ?_)
                    obtain ⟨rfl, w_261, b_261, x_261⟩ := hq9
                    have q_261 := MRT.w q_220 w_261
                    have s_261 := s_220.p (c := 41)
                    clear b_261
                    refine tz_aload_n (pc := 264) dX12_term1_264 rfl rfl ?_
                    refine tz_fI (pc := 265) (kz := 43) (v := (J_261 164 43)) dX12_term1_265 fl_X12_273 i_164_43 rfl rfl (fun r_265 => ?_)
                    refine tz_if_ne (pc := 268) (tgt := 285) dX12_term1_268 (by decide) (by omega) (fun h_268 => ?_) (fun h_268 => ?_)
                    · refine tz_iconst (pc := 285) dX12_term1_285 ?_
                      exact tz_iret (pc := 286) (z := 0) dX12_term1_286 rfl (Nat.le_of_ble_eq_true rfl) (Nat.le_of_ble_eq_true rfl) ⟨Nat.le_refl _, Nat.le_add_right _ _⟩ ⟨_, rfl, (by decide), (by have e9 : pT (r9 + 1) g x = (if ((pP (pT r9 (pP (pT r9 (pP (pN g) 40) (x + 1)).1 44) (x + 1)).1 41)) 0 4 = 0 then pMd ((pP (pT r9 (pP (pT r9 (pP (pN g) 40) (x + 1)).1 44) (x + 1)).1 41)) (psy g (g 1 (g 0 1))) (pT r9 (pP (pN g) 40) (x + 1)).2 (pT r9 (pP (pT r9 (pP (pN g) 40) (x + 1)).1 44) (x + 1)).2 0 else ((pP (pT r9 (pP (pT r9 (pP (pN g) 40) (x + 1)).1 44) (x + 1)).1 41), 0)) := (by rw [pT_s, if_pos h0, if_neg (by have := hT.1.sg (c := 63) (by decide); omega), if_pos (by have := hT.1.so; omega), if_pos (by have := hT.1.so; omega), if_pos (by omega)]; unfold pC; rw [hgA]; unfold pA4 pA3 pA2 pA1; simp only [show ((0 : Int) < 2) by decide, show ((1 : Int) < 2) by decide, show ¬ ((2 : Int) < 2) by decide, if_true, if_false]); have n9 := x_261.no (by omega); exact ⟨m_220, q_261, fun q9 => by omega, by rw [e9, if_neg n9]; exact x_261, fun q9 => absurd (show ((pP (pT r9 (pP (pT r9 (pP (pN g) 40) (x + 1)).1 44) (x + 1)).1 41)) 0 4 = 0 from by rw [e9, if_neg n9] at q9; exact q9) n9⟩)⟩
                    · refine tz_aload_n (pc := 271) dX12_term1_271 rfl rfl ?_
                      refine tz_iload_n (pc := 272) dX12_term1_272 rfl rfl ?_
                      refine tz_iload (pc := 273) dX12_term1_273 rfl ?_
                      refine tz_iload (pc := 275) dX12_term1_275 rfl ?_
                      refine tz_iload (pc := 277) dX12_term1_277 rfl ?_
                      have hb_261 : J_261 164 43 = 0 := h_268
                      have hb_220 := w_261.2.2.1 hb_261
                      have hb_208 := w_220.2.2.1 hb_220
                      have hb_195 := w_208.2.2.1 hb_208
                      have hv_195 := h_195 hb_195
                      have hv_220 := h_220 hb_220
                      refine tz_cV (pc := 279) (z_tm2 hl n _ _ _ _ _ (by omega) hz_195 hz_220 (by decide) s m_220 _ (q_261).1.1.1 (by omega) ⟨by omega, ((congrFun ((q_261).c 170 rfl) _).trans hk9)⟩ (q_261).2.2.2.2 ⟨fun _ => ⟨hv_195.1, by omega⟩, fun _ => ⟨hv_220.1, by omega⟩, fun g9 => absurd g9 (by decide)⟩ h_268 x_261) vl_X12_107 dX12_term1_279 o_164 rfl rfl (Nat.le_of_ble_eq_true rfl) ⟨(show 2 + 1 ≤ 6 + 1 * (r9 + 1) by omega), (show 8 + (8 + 11) + 40 * (2) ≤ 40 * (6 + 1 * (r9 + 1)) by omega)⟩ rfl rfl (Nat.le_of_ble_eq_true rfl) (Nat.le_of_ble_eq_true rfl) (fun r9 J_279 hq9 => ?_)
                      obtain ⟨z_279, rfl, hz_279, ⟨m_279, g_279, h_279⟩, x_279, y_279⟩ := hq9
                      have q_279 := MRT.t q_261 g_279 (by omega)
                      refine tz_goto (pc := 282) (tgt := 286) dX12_term1_282 (by decide) ?_
                      exact tz_iret (pc := 286) (z := z_279) dX12_term1_286 rfl (Nat.le_of_ble_eq_true rfl) (Nat.le_of_ble_eq_true rfl) ⟨Nat.le_refl _, Nat.le_add_right _ _⟩ ⟨_, rfl, (by omega), (by have e9 : pT (r9 + 1) g x = (if ((pP (pT r9 (pP (pT r9 (pP (pN g) 40) (x + 1)).1 44) (x + 1)).1 41)) 0 4 = 0 then pMd ((pP (pT r9 (pP (pT r9 (pP (pN g) 40) (x + 1)).1 44) (x + 1)).1 41)) (psy g (g 1 (g 0 1))) (pT r9 (pP (pN g) 40) (x + 1)).2 (pT r9 (pP (pT r9 (pP (pN g) 40) (x + 1)).1 44) (x + 1)).2 0 else ((pP (pT r9 (pP (pT r9 (pP (pN g) 40) (x + 1)).1 44) (x + 1)).1 41), 0)) := (by rw [pT_s, if_pos h0, if_neg (by have := hT.1.sg (c := 63) (by decide); omega), if_pos (by have := hT.1.so; omega), if_pos (by have := hT.1.so; omega), if_pos (by omega)]; unfold pC; rw [hgA]; unfold pA4 pA3 pA2 pA1; simp only [show ((0 : Int) < 2) by decide, show ((1 : Int) < 2) by decide, show ¬ ((2 : Int) < 2) by decide, if_true, if_false]); have e8 : (if ((pP (pT r9 (pP (pT r9 (pP (pN g) 40) (x + 1)).1 44) (x + 1)).1 41)) 0 4 = 0 then pMd ((pP (pT r9 (pP (pT r9 (pP (pN g) 40) (x + 1)).1 44) (x + 1)).1 41)) (psy g (g 1 (g 0 1))) (pT r9 (pP (pN g) 40) (x + 1)).2 (pT r9 (pP (pT r9 (pP (pN g) 40) (x + 1)).1 44) (x + 1)).2 0 else ((pP (pT r9 (pP (pT r9 (pP (pN g) 40) (x + 1)).1 44) (x + 1)).1 41), 0)) = (if ((pP (pT r9 (pP (pT r9 (pP (pN g) 40) (x + 1)).1 44) (x + 1)).1 41)) 0 4 = 0 then pMd ((pP (pT r9 (pP (pT r9 (pP (pN g) 40) (x + 1)).1 44) (x + 1)).1 41)) z_107 z_195 z_220 0 else ((pP (pT r9 (pP (pT r9 (pP (pN g) 40) (x + 1)).1 44) (x + 1)).1 41), 0)) := (by by_cases q9 : ((pP (pT r9 (pP (pT r9 (pP (pN g) 40) (x + 1)).1 44) (x + 1)).1 41)) 0 4 = 0; (rw [if_pos q9, if_pos q9]; have f_2 : (pT r9 (pP (pT r9 (pP (pN g) 40) (x + 1)).1 44) (x + 1)).1 0 4 = 0 := (Classical.byContradiction (fun e => e (by rw [pP_f e] at q9; exact q9))); have f_1 : (pT r9 (pP (pN g) 40) (x + 1)).1 0 4 = 0 := (Classical.byContradiction (fun e => e (by have q8 := f_2; rw [pP_f e, pT_f e] at q8; exact q8))); rw [← hz9.1, ← y_195 f_1, ← y_220 f_2]); rw [if_neg q9, if_neg q9]); exact ⟨m_279, q_279, fun _ => h_279, by rw [e9, e8]; exact x_279, by rw [e9, e8]; exact y_279⟩)⟩
                  · rw [hk9] at hgA ⊢
                    refine tz_istore_n (pc := 171) (L2 := [_, _, _, _, _, _, _]) dX12_term1_171 rfl (by decide) rfl ?_
                    refine tz_iconst (pc := 172) dX12_term1_172 ?_
                    refine tz_istore (pc := 173) (L2 := [_, _, _, _, _, _, _]) dX12_term1_173 (by decide) rfl ?_
                    refine tz_iconst (pc := 175) dX12_term1_175 ?_
                    refine tz_istore (pc := 176) (L2 := [_, _, _, _, _, _, _]) dX12_term1_176 (by decide) rfl ?_
                    refine tz_iconst (pc := 178) dX12_term1_178 ?_
                    refine tz_istore (pc := 179) (L2 := [_, _, _, _, _, _, _]) dX12_term1_179 (by decide) rfl ?_
                    refine tz_iload_n (pc := 181) dX12_term1_181 rfl rfl ?_
                    refine tz_if_leF (pc := 182) (tgt := 264) (by decide) dX12_term1_182 (by decide) (by decide) ?_
                    refine tz_aload_n (pc := 185) dX12_term1_185 rfl rfl ?_
                    refine tz_bipush (pc := 186) dX12_term1_186 (by decide) ?_
                    refine tz_cV (pc := 188) (z_sign hl n _ _ (by decide) _ x_159 s_159 (q_159).2.1 (by decide)) vl_X12_296 dX12_term1_188 o_164 rfl rfl (Nat.le_of_ble_eq_true rfl) ⟨(show 3 + 1 ≤ 6 + 1 * (r9 + 1) by omega), (show 8 + (2 + 11) + 40 * (3) ≤ 40 * (6 + 1 * (r9 + 1)) by omega)⟩ rfl rfl (Nat.le_of_ble_eq_true rfl) (Nat.le_of_ble_eq_true rfl) (fun r9 J_188 hq9 => ?_)
                    obtain ⟨rfl, w_188, b_188, x_188⟩ := hq9
                    have q_188 := MRT.w q_159 w_188
                    have s_188 := s_159.p (c := 40)
                    clear b_188
                    refine tz_aload_n (pc := 191) dX12_term1_191 rfl rfl ?_
                    refine tz_iload_n (pc := 192) dX12_term1_192 rfl rfl ?_
                    refine tz_iconst (pc := 193) dX12_term1_193 ?_
                    refine tz_iadd (pc := 194) (v := x + 1) dX12_term1_194 rfl ?_
                    refine tz_cV (pc := 195) (ih _ _ (by omega) s m _ (q_188).1.1.1 (q_188).2.1 (q_188).2.2.2.2 (((q_188).f 44 rfl).trans h44) (by omega) x_188 s_188 (by omega)) vl_X12_298 dX12_term1_195 o_164 rfl rfl (Nat.le_of_ble_eq_true rfl) ⟨(show (6 + 1 * r9) + 1 ≤ 6 + 1 * (r9 + 1) by omega), (show 8 + (7 + 11) + 40 * ((6 + 1 * r9)) ≤ 40 * (6 + 1 * (r9 + 1)) by omega)⟩ rfl rfl (Nat.le_of_ble_eq_true rfl) (Nat.le_of_ble_eq_true rfl) (fun r9 J_195 hq9 => ?_)
                    obtain ⟨z_195, rfl, hz_195, m_195, w_195, h_195, x_195, y_195⟩ := hq9
                    have q_195 := MRT.tr q_188 w_195
                    have l_195 := w_195.1.1.2
                    have s_195 := SI.t r9 _ (x + 1) s_188
                    refine tz_istore (pc := 198) (L2 := [_, _, _, _, _, _, _]) dX12_term1_198 (by decide) rfl ?_
                    refine tz_iload_n (pc := 200) dX12_term1_200 rfl rfl ?_
                    refine tz_iconst (pc := 201) dX12_term1_201 ?_
                    refine tz_icmp_leF (pc := 202) (tgt := 211) (by decide) dX12_term1_202 (by decide) (by decide) (by decide) ?_
                    refine tz_aload_n (pc := 205) dX12_term1_205 rfl rfl ?_
                    refine tz_bipush (pc := 206) dX12_term1_206 (by decide) ?_
                    refine tz_cV (pc := 208) (z_sign hl n _ _ (by decide) _ x_195 s_195 (q_195).2.1 (by decide)) vl_X12_296 dX12_term1_208 o_164 rfl rfl (Nat.le_of_ble_eq_true rfl) ⟨(show 3 + 1 ≤ 6 + 1 * (r9 + 1) by omega), (show 8 + (2 + 11) + 40 * (3) ≤ 40 * (6 + 1 * (r9 + 1)) by omega)⟩ rfl rfl (Nat.le_of_ble_eq_true rfl) (Nat.le_of_ble_eq_true rfl) (fun r9 J_208 hq9 => ?_)
                    obtain ⟨rfl, w_208, b_208, x_208⟩ := hq9
                    have q_208 := MRT.w q_195 w_208
                    have s_208 := s_195.p (c := 44)
                    clear b_208
                    refine tz_iload_n (pc := 211) dX12_term1_211 rfl rfl ?_
                    refine tz_iconst (pc := 212) dX12_term1_212 ?_
                    refine tz_icmp_leF (pc := 213) (tgt := 226) (by decide) dX12_term1_213 (by decide) (by decide) (by decide) ?_
                    refine tz_aload_n (pc := 216) dX12_term1_216 rfl rfl ?_
                    refine tz_iload_n (pc := 217) dX12_term1_217 rfl rfl ?_
                    refine tz_iconst (pc := 218) dX12_term1_218 ?_
                    refine tz_iadd (pc := 219) (v := x + 1) dX12_term1_219 rfl ?_
                    refine tz_cV (pc := 220) (ih _ _ (by omega) s m_195 _ (q_208).1.1.1 (q_208).2.1 (q_208).2.2.2.2 (((q_208).f 44 rfl).trans h44) (by omega) x_208 s_208 (by omega)) vl_X12_298 dX12_term1_220 o_164 rfl rfl (Nat.le_of_ble_eq_true rfl) ⟨(show (6 + 1 * r9) + 1 ≤ 6 + 1 * (r9 + 1) by omega), (show 8 + (7 + 11) + 40 * ((6 + 1 * r9)) ≤ 40 * (6 + 1 * (r9 + 1)) by omega)⟩ rfl rfl (Nat.le_of_ble_eq_true rfl) (Nat.le_of_ble_eq_true rfl) (fun r9 J_220 hq9 => ?_)
                    obtain ⟨z_220, rfl, hz_220, m_220, w_220, h_220, x_220, y_220⟩ := hq9
                    have q_220 := MRT.tr q_208 w_220
                    have l_220 := w_220.1.1.2
                    have s_220 := SI.t r9 _ (x + 1) s_208
                    refine tz_goto (pc := 223) (tgt := 227) dX12_term1_223 (by decide) ?_
                    refine tz_istore (pc := 227) (L2 := [_, _, _, _, _, _, _]) dX12_term1_227 (by decide) rfl ?_
                    refine tz_iload_n (pc := 229) dX12_term1_229 rfl rfl ?_
                    refine tz_iconst (pc := 230) dX12_term1_230 ?_
                    refine tz_icmp_leF (pc := 231) (tgt := 240) (by decide) dX12_term1_231 (by decide) (by decide) (by decide) ?_
                    refine tz_aload_n (pc := 234) dX12_term1_234 rfl rfl ?_
                    refine tz_bipush (pc := 235) dX12_term1_235 (by decide) ?_
                    refine tz_cV (pc := 237) (z_sign hl n _ _ (by decide) _ x_220 s_220 (q_220).2.1 (by decide)) vl_X12_296 dX12_term1_237 o_164 rfl rfl (Nat.le_of_ble_eq_true rfl) ⟨(show 3 + 1 ≤ 6 + 1 * (r9 + 1) by omega), (show 8 + (2 + 11) + 40 * (3) ≤ 40 * (6 + 1 * (r9 + 1)) by omega)⟩ rfl rfl (Nat.le_of_ble_eq_true rfl) (Nat.le_of_ble_eq_true rfl) (fun r9 J_237 hq9 => ?_)
                    obtain ⟨rfl, w_237, b_237, x_237⟩ := hq9
                    have q_237 := MRT.w q_220 w_237
                    have s_237 := s_220.p (c := 44)
                    clear b_237
                    refine tz_iload_n (pc := 240) dX12_term1_240 rfl rfl ?_
                    refine tz_iconst (pc := 241) dX12_term1_241 ?_
                    refine tz_icmp_leF (pc := 242) (tgt := 255) (by decide) dX12_term1_242 (by decide) (by decide) (by decide) ?_
                    refine tz_aload_n (pc := 245) dX12_term1_245 rfl rfl ?_
                    refine tz_iload_n (pc := 246) dX12_term1_246 rfl rfl ?_
                    refine tz_iconst (pc := 247) dX12_term1_247 ?_
                    refine tz_iadd (pc := 248) (v := x + 1) dX12_term1_248 rfl ?_
                    refine tz_cV (pc := 249) (ih _ _ (by omega) s m_220 _ (q_237).1.1.1 (q_237).2.1 (q_237).2.2.2.2 (((q_237).f 44 rfl).trans h44) (by omega) x_237 s_237 (by omega)) vl_X12_298 dX12_term1_249 o_164 rfl rfl (Nat.le_of_ble_eq_true rfl) ⟨(show (6 + 1 * r9) + 1 ≤ 6 + 1 * (r9 + 1) by omega), (show 8 + (7 + 11) + 40 * ((6 + 1 * r9)) ≤ 40 * (6 + 1 * (r9 + 1)) by omega)⟩ rfl rfl (Nat.le_of_ble_eq_true rfl) (Nat.le_of_ble_eq_true rfl) (fun r9 J_249 hq9 => ?_)
                    obtain ⟨z_249, rfl, hz_249, m_249, w_249, h_249, x_249, y_249⟩ := hq9
                    have q_249 := MRT.tr q_237 w_249
                    have l_249 := w_249.1.1.2
                    have s_249 := SI.t r9 _ (x + 1) s_237
                    refine tz_goto (pc := 252) (tgt := 256) dX12_term1_252 (by decide) ?_
                    refine tz_istore (pc := 256) (L2 := [_, _, _, _, _, _, _]) dX12_term1_256 (by decide) rfl ?_
                    refine tz_aload_n (pc := 258) dX12_term1_258 rfl rfl ?_
                    refine tz_bipush (pc := 259) dX12_term1_259 (by decide) ?_
                    refine tz_cV (pc := 261) (z_sign hl n _ _ (by decide) _ x_249 s_249 (q_249).2.1 (by decide)) vl_X12_296 dX12_term1_261 o_164 rfl rfl (Nat.le_of_ble_eq_true rfl) ⟨(show 3 + 1 ≤ 6 + 1 * (r9 + 1) by omega), (show 8 + (2 + 11) + 40 * (3) ≤ 40 * (6 + 1 * (r9 + 1)) by omega)⟩ rfl rfl (Nat.le_of_ble_eq_true rfl) (Nat.le_of_ble_eq_true rfl) (fun r9 J_261 hq9 => ?_)
                    obtain ⟨rfl, w_261, b_261, x_261⟩ := hq9
                    have q_261 := MRT.w q_249 w_261
                    have s_261 := s_249.p (c := 41)
                    clear b_261
                    refine tz_aload_n (pc := 264) dX12_term1_264 rfl rfl ?_
                    refine tz_fI (pc := 265) (kz := 43) (v := (J_261 164 43)) dX12_term1_265 fl_X12_273 i_164_43 rfl rfl (fun r_265 => ?_)
                    refine tz_if_ne (pc := 268) (tgt := 285) dX12_term1_268 (by decide) (by omega) (fun h_268 => ?_) (fun h_268 => ?_)
                    · refine tz_iconst (pc := 285) dX12_term1_285 ?_
                      exact tz_iret (pc := 286) (z := 0) dX12_term1_286 rfl (Nat.le_of_ble_eq_true rfl) (Nat.le_of_ble_eq_true rfl) ⟨Nat.le_refl _, Nat.le_add_right _ _⟩ ⟨_, rfl, (by decide), (by have e9 : pT (r9 + 1) g x = (if ((pP (pT r9 (pP (pT r9 (pP (pT r9 (pP (pN g) 40) (x + 1)).1 44) (x + 1)).1 44) (x + 1)).1 41)) 0 4 = 0 then pMd ((pP (pT r9 (pP (pT r9 (pP (pT r9 (pP (pN g) 40) (x + 1)).1 44) (x + 1)).1 44) (x + 1)).1 41)) (psy g (g 1 (g 0 1))) (pT r9 (pP (pN g) 40) (x + 1)).2 (pT r9 (pP (pT r9 (pP (pN g) 40) (x + 1)).1 44) (x + 1)).2 (pT r9 (pP (pT r9 (pP (pT r9 (pP (pN g) 40) (x + 1)).1 44) (x + 1)).1 44) (x + 1)).2 else ((pP (pT r9 (pP (pT r9 (pP (pT r9 (pP (pN g) 40) (x + 1)).1 44) (x + 1)).1 44) (x + 1)).1 41), 0)) := (by rw [pT_s, if_pos h0, if_neg (by have := hT.1.sg (c := 63) (by decide); omega), if_pos (by have := hT.1.so; omega), if_pos (by have := hT.1.so; omega), if_pos (by omega)]; unfold pC; rw [hgA]; unfold pA4 pA3 pA2 pA1; simp only [show ((0 : Int) < 3) by decide, show ((1 : Int) < 3) by decide, show ((2 : Int) < 3) by decide, if_true, if_false]); have n9 := x_261.no (by omega); exact ⟨m_249, q_261, fun q9 => by omega, by rw [e9, if_neg n9]; exact x_261, fun q9 => absurd (show ((pP (pT r9 (pP (pT r9 (pP (pT r9 (pP (pN g) 40) (x + 1)).1 44) (x + 1)).1 44) (x + 1)).1 41)) 0 4 = 0 from by rw [e9, if_neg n9] at q9; exact q9) n9⟩)⟩
                    · refine tz_aload_n (pc := 271) dX12_term1_271 rfl rfl ?_
                      refine tz_iload_n (pc := 272) dX12_term1_272 rfl rfl ?_
                      refine tz_iload (pc := 273) dX12_term1_273 rfl ?_
                      refine tz_iload (pc := 275) dX12_term1_275 rfl ?_
                      refine tz_iload (pc := 277) dX12_term1_277 rfl ?_
                      have hb_261 : J_261 164 43 = 0 := h_268
                      have hb_249 := w_261.2.2.1 hb_261
                      have hb_237 := w_249.2.2.1 hb_249
                      have hb_220 := w_237.2.2.1 hb_237
                      have hb_208 := w_220.2.2.1 hb_220
                      have hb_195 := w_208.2.2.1 hb_208
                      have hv_195 := h_195 hb_195
                      have hv_220 := h_220 hb_220
                      have hv_249 := h_249 hb_249
                      refine tz_cV (pc := 279) (z_tm3 hl n _ _ _ _ _ (by omega) hz_195 hz_220 hz_249 s m_249 _ (q_261).1.1.1 (by omega) ⟨by omega, ((congrFun ((q_261).c 170 rfl) _).trans hk9)⟩ (q_261).2.2.2.2 ⟨fun _ => ⟨hv_195.1, by omega⟩, fun _ => ⟨hv_220.1, by omega⟩, fun _ => ⟨hv_249.1, by omega⟩⟩ h_268 x_261) vl_X12_107 dX12_term1_279 o_164 rfl rfl (Nat.le_of_ble_eq_true rfl) ⟨(show 2 + 1 ≤ 6 + 1 * (r9 + 1) by omega), (show 8 + (8 + 11) + 40 * (2) ≤ 40 * (6 + 1 * (r9 + 1)) by omega)⟩ rfl rfl (Nat.le_of_ble_eq_true rfl) (Nat.le_of_ble_eq_true rfl) (fun r9 J_279 hq9 => ?_)
                      obtain ⟨z_279, rfl, hz_279, ⟨m_279, g_279, h_279⟩, x_279, y_279⟩ := hq9
                      have q_279 := MRT.t q_261 g_279 (by omega)
                      refine tz_goto (pc := 282) (tgt := 286) dX12_term1_282 (by decide) ?_
                      exact tz_iret (pc := 286) (z := z_279) dX12_term1_286 rfl (Nat.le_of_ble_eq_true rfl) (Nat.le_of_ble_eq_true rfl) ⟨Nat.le_refl _, Nat.le_add_right _ _⟩ ⟨_, rfl, (by omega), (by have e9 : pT (r9 + 1) g x = (if ((pP (pT r9 (pP (pT r9 (pP (pT r9 (pP (pN g) 40) (x + 1)).1 44) (x + 1)).1 44) (x + 1)).1 41)) 0 4 = 0 then pMd ((pP (pT r9 (pP (pT r9 (pP (pT r9 (pP (pN g) 40) (x + 1)).1 44) (x + 1)).1 44) (x + 1)).1 41)) (psy g (g 1 (g 0 1))) (pT r9 (pP (pN g) 40) (x + 1)).2 (pT r9 (pP (pT r9 (pP (pN g) 40) (x + 1)).1 44) (x + 1)).2 (pT r9 (pP (pT r9 (pP (pT r9 (pP (pN g) 40) (x + 1)).1 44) (x + 1)).1 44) (x + 1)).2 else ((pP (pT r9 (pP (pT r9 (pP (pT r9 (pP (pN g) 40) (x + 1)).1 44) (x + 1)).1 44) (x + 1)).1 41), 0)) := (by rw [pT_s, if_pos h0, if_neg (by have := hT.1.sg (c := 63) (by decide); omega), if_pos (by have := hT.1.so; omega), if_pos (by have := hT.1.so; omega), if_pos (by omega)]; unfold pC; rw [hgA]; unfold pA4 pA3 pA2 pA1; simp only [show ((0 : Int) < 3) by decide, show ((1 : Int) < 3) by decide, show ((2 : Int) < 3) by decide, if_true, if_false]); have e8 : (if ((pP (pT r9 (pP (pT r9 (pP (pT r9 (pP (pN g) 40) (x + 1)).1 44) (x + 1)).1 44) (x + 1)).1 41)) 0 4 = 0 then pMd ((pP (pT r9 (pP (pT r9 (pP (pT r9 (pP (pN g) 40) (x + 1)).1 44) (x + 1)).1 44) (x + 1)).1 41)) (psy g (g 1 (g 0 1))) (pT r9 (pP (pN g) 40) (x + 1)).2 (pT r9 (pP (pT r9 (pP (pN g) 40) (x + 1)).1 44) (x + 1)).2 (pT r9 (pP (pT r9 (pP (pT r9 (pP (pN g) 40) (x + 1)).1 44) (x + 1)).1 44) (x + 1)).2 else ((pP (pT r9 (pP (pT r9 (pP (pT r9 (pP (pN g) 40) (x + 1)).1 44) (x + 1)).1 44) (x + 1)).1 41), 0)) = (if ((pP (pT r9 (pP (pT r9 (pP (pT r9 (pP (pN g) 40) (x + 1)).1 44) (x + 1)).1 44) (x + 1)).1 41)) 0 4 = 0 then pMd ((pP (pT r9 (pP (pT r9 (pP (pT r9 (pP (pN g) 40) (x + 1)).1 44) (x + 1)).1 44) (x + 1)).1 41)) z_107 z_195 z_220 z_249 else ((pP (pT r9 (pP (pT r9 (pP (pT r9 (pP (pN g) 40) (x + 1)).1 44) (x + 1)).1 44) (x + 1)).1 41), 0)) := (by by_cases q9 : ((pP (pT r9 (pP (pT r9 (pP (pT r9 (pP (pN g) 40) (x + 1)).1 44) (x + 1)).1 44) (x + 1)).1 41)) 0 4 = 0; (rw [if_pos q9, if_pos q9]; have f_3 : (pT r9 (pP (pT r9 (pP (pT r9 (pP (pN g) 40) (x + 1)).1 44) (x + 1)).1 44) (x + 1)).1 0 4 = 0 := (Classical.byContradiction (fun e => e (by rw [pP_f e] at q9; exact q9))); have f_2 : (pT r9 (pP (pT r9 (pP (pN g) 40) (x + 1)).1 44) (x + 1)).1 0 4 = 0 := (Classical.byContradiction (fun e => e (by have q8 := f_3; rw [pP_f e, pT_f e] at q8; exact q8))); have f_1 : (pT r9 (pP (pN g) 40) (x + 1)).1 0 4 = 0 := (Classical.byContradiction (fun e => e (by have q8 := f_2; rw [pP_f e, pT_f e] at q8; exact q8))); rw [← hz9.1, ← y_195 f_1, ← y_220 f_2, ← y_249 f_3]); rw [if_neg q9, if_neg q9]); exact ⟨m_279, q_279, fun _ => h_279, by rw [e9, e8]; exact x_279, by rw [e9, e8]; exact y_279⟩)⟩
          · refine tz_aload_n (pc := 48) dX12_term1_48 rfl rfl ?_
            refine tz_iload_n (pc := 49) dX12_term1_49 rfl rfl ?_
            refine tz_bipush (pc := 50) dX12_term1_50 (by decide) ?_
            refine tz_icmp_gt (pc := 52) (tgt := 59) dX12_term1_52 (by decide) (by omega) (by decide) (fun h_52 => ?_) (fun h_52 => ?_)
            · refine tz_iconst (pc := 59) dX12_term1_59 ?_
              refine tz_iconst (pc := 60) dX12_term1_60 ?_
              refine tz_cV (pc := 61) (y_wants hl n _ _ _ (by decide) (by decide) g hR hP (by decide)) vl_X12_276 dX12_term1_61 o_164 rfl rfl (Nat.le_of_ble_eq_true rfl) ⟨(show 0 + 1 ≤ 6 + 1 * (r9 + 1) by omega), (show 8 + (3 + 11) + 40 * (0) ≤ 40 * (6 + 1 * (r9 + 1)) by omega)⟩ rfl rfl (Nat.le_of_ble_eq_true rfl) (Nat.le_of_ble_eq_true rfl) (fun r9 J_61 hq9 => ?_)
              obtain ⟨z_61, rfl, hz_61, w_61, o_61⟩ := hq9
              obtain ⟨rfl, v_61, r_61⟩ : z_61 = 0 ∧ ¬ J_61 164 43 = 0 ∧ RelM J_61 (pF g 2) := by rcases o_61 with q | q | q; exact absurd rfl q.2.1; exact ⟨q.2.2.1, q.2.2.2⟩; exact absurd h0 q.1
              have q_61 := MRT.w g0 w_61
              clear o_61
              refine tz_if_neF (pc := 64) (tgt := 69) (by decide) dX12_term1_64 (by decide) (by decide) ?_
              refine tz_iconst (pc := 67) dX12_term1_67 ?_
              exact tz_iret (pc := 68) (z := 0) dX12_term1_68 rfl (Nat.le_of_ble_eq_true rfl) (Nat.le_of_ble_eq_true rfl) ⟨Nat.le_refl _, Nat.le_add_right _ _⟩ ⟨_, rfl, (by decide), (by have e9 : pT (r9 + 1) g x = (pF g 2, 0) := (by rw [pT_s, if_pos h0, if_pos ((hT.1.sg (c := 63) (by decide)).1 (by omega)), if_neg (by omega)]); exact ⟨m, q_61, fun q9 => absurd q9 v_61, by rw [e9]; exact Or.inr r_61, fun q9 => absurd (r_61.1.trans (by rw [e9] at q9; exact q9)) v_61⟩)⟩
            · refine tz_iconst (pc := 55) dX12_term1_55 ?_
              refine tz_goto (pc := 56) (tgt := 60) dX12_term1_56 (by decide) ?_
              refine tz_iconst (pc := 60) dX12_term1_60 ?_
              refine tz_cV (pc := 61) (y_wants hl n _ _ _ (by decide) (by decide) g hR hP (by decide)) vl_X12_276 dX12_term1_61 o_164 rfl rfl (Nat.le_of_ble_eq_true rfl) ⟨(show 0 + 1 ≤ 6 + 1 * (r9 + 1) by omega), (show 8 + (3 + 11) + 40 * (0) ≤ 40 * (6 + 1 * (r9 + 1)) by omega)⟩ rfl rfl (Nat.le_of_ble_eq_true rfl) (Nat.le_of_ble_eq_true rfl) (fun r9 J_61 hq9 => ?_)
              obtain ⟨z_61, rfl, hz_61, w_61, o_61⟩ := hq9
              obtain ⟨rfl, rfl⟩ : z_61 = 1 ∧ J = J_61 := by rcases o_61 with q | q | q; exact ⟨q.2.2.1, q.2.2.2⟩; exact absurd q.2.1 (by decide); exact absurd h0 q.1
              clear o_61
              refine tz_if_neT (pc := 64) (tgt := 69) (by decide) dX12_term1_64 (by decide) (by decide) ?_
              refine tz_aload_n (pc := 69) dX12_term1_69 rfl rfl ?_
              refine tz_cV (pc := 70) (y_go hl n _ g hR h0 hS) vl_X12_280 dX12_term1_70 o_164 rfl rfl (Nat.le_of_ble_eq_true rfl) ⟨(show 2 + 1 ≤ 6 + 1 * (r9 + 1) by omega), (show 8 + (2 + 11) + 40 * (2) ≤ 40 * (6 + 1 * (r9 + 1)) by omega)⟩ rfl rfl (Nat.le_of_ble_eq_true rfl) (Nat.le_of_ble_eq_true rfl) (fun r9 J_70 hq9 => ?_)
              obtain ⟨rfl, r_70, w_70, u_70⟩ := hq9
              have q_70 := MRT.w g0 w_70
              have s_70 := hS.n
              have x_70 : RelX J_70 (pN g) := Or.inr r_70
              clear u_70
              refine tz_aload_n (pc := 73) dX12_term1_73 rfl rfl ?_
              refine tz_iconst (pc := 74) dX12_term1_74 ?_
              refine tz_bipush (pc := 75) dX12_term1_75 (by decide) ?_
              refine tz_cV (pc := 77) (y_number hl n _ _ _ (by decide) (by decide) (pN g) r_70 s_70 (q_70).2.1 (by decide)) vl_X12_290 dX12_term1_77 o_164 rfl rfl (Nat.le_of_ble_eq_true rfl) ⟨(show 3 + 1 ≤ 6 + 1 * (r9 + 1) by omega), (show 8 + (4 + 11) + 40 * (3) ≤ 40 * (6 + 1 * (r9 + 1)) by omega)⟩ rfl rfl (Nat.le_of_ble_eq_true rfl) (Nat.le_of_ble_eq_true rfl) (fun r9 J_77 hq9 => ?_)
              obtain ⟨z_77, rfl, hz_77, w_77, b_77, r_77, e_77⟩ := hq9
              have q_77 := MRT.w q_70 w_77
              refine tz_istore_n (pc := 80) (L2 := [_, _, _, _, _, _, _]) dX12_term1_80 rfl (by decide) rfl ?_
              refine tz_aload_n (pc := 81) dX12_term1_81 rfl rfl ?_
              refine tz_fI (pc := 82) (kz := 43) (v := (J_77 164 43)) dX12_term1_82 fl_X12_273 i_164_43 rfl rfl (fun r_82 => ?_)
              refine tz_if_ne (pc := 85) (tgt := 96) dX12_term1_85 (by decide) (by omega) (fun h_85 => ?_) (fun h_85 => ?_)
              · refine tz_iconst (pc := 96) dX12_term1_96 ?_
                exact tz_iret (pc := 97) (z := 0) dX12_term1_97 rfl (Nat.le_of_ble_eq_true rfl) (Nat.le_of_ble_eq_true rfl) ⟨Nat.le_refl _, Nat.le_add_right _ _⟩ ⟨_, rfl, (by decide), (by have hU : ¬ (pU (pN g) 0 7).1 0 4 = 0 := (by rw [← r_77.1]; omega); have e9 : pT (r9 + 1) g x = ((pU (pN g) 0 7).1, 0) := (by rw [pT_s, if_pos h0, if_pos ((hT.1.sg (c := 63) (by decide)).1 (by omega)), if_pos (by omega)]; unfold pV; rw [if_neg hU]); exact ⟨m, q_77, fun q9 => by omega, by rw [e9]; exact Or.inr r_77, fun q9 => absurd (by rw [e9] at q9; exact q9) hU⟩)⟩
              · refine tz_aload_n (pc := 88) dX12_term1_88 rfl rfl ?_
                refine tz_iload_n (pc := 89) dX12_term1_89 rfl rfl ?_
                have hU : (pU (pN g) 0 7).1 0 4 = 0 := by rw [← r_77.1]; omega
                have hz7 := e_77 hU
                clear e_77
                have h21 : J_77 164 21 = 0 := (r_77.2.2 hU).2.2.2.1.2.2.1
                refine tz_cV (pc := 90) (x_varTerm hl n _ _ (by omega) s m (q_77).1.1.1 (by omega) h21) vl_X12_180 dX12_term1_90 o_164 rfl rfl (Nat.le_of_ble_eq_true rfl) ⟨(show 3 + 1 ≤ 6 + 1 * (r9 + 1) by omega), (show 8 + (2 + 11) + 40 * (3) ≤ 40 * (6 + 1 * (r9 + 1)) by omega)⟩ rfl rfl (Nat.le_of_ble_eq_true rfl) (Nat.le_of_ble_eq_true rfl) (fun r9 J_90 hq9 => ?_)
                obtain ⟨z_90, rfl, hz_90, t_90⟩ := hq9
                have hA9 : arh (fun k => J_77 170 (10 + k)) (-1 - z_77) = 0 := arh_neg (by omega)
                obtain ⟨m_90, g_90, h_90⟩ := t_90.mg (q_77).1.1.1 hA9 (by omega) h21 (by omega)
                have q_90 := MRT.t q_77 g_90 (by omega)
                have x_90 := r_77.made hU (q_77).1.1.1 hA9 (by omega) (by omega) t_90
                rw [hz7] at x_90
                refine tz_goto (pc := 93) (tgt := 97) dX12_term1_93 (by decide) ?_
                exact tz_iret (pc := 97) (z := z_90) dX12_term1_97 rfl (Nat.le_of_ble_eq_true rfl) (Nat.le_of_ble_eq_true rfl) ⟨Nat.le_refl _, Nat.le_add_right _ _⟩ ⟨_, rfl, (by omega), (by have e9 : pT (r9 + 1) g x = pMd (pU (pN g) 0 7).1 (-1 - (pU (pN g) 0 7).2) 0 0 0 := (by rw [pT_s, if_pos h0, if_pos ((hT.1.sg (c := 63) (by decide)).1 (by omega)), if_pos (by omega)]; unfold pV; rw [if_pos hU]); exact ⟨m_90, q_90, fun _ => h_90, by rw [e9]; exact x_90.1, by rw [e9]; exact x_90.2⟩)⟩

end
section
/-! ===== clauses of a text: the reference follows the reading ===== -/
theorem RelM.far {J' J g g' : zJ} (h : RelM J g) (h0 : ¬ g 0 4 = 0) (e43 : J' 164 43 = J 164 43) (e20 : J' 164 20 = J 164 20) (e4 : g' 0 4 = g 0 4) (e5 : g' 0 5 = g 0 5) : RelM J' g' := ⟨by rw [e43, e4]; exact h.1, fun _ => by rw [e20, e5]; exact h.2.1 h0, fun q => absurd (e4.symm.trans q) h0⟩
theorem RelM.sym {J g : zJ} {c n w : Int} (h : RelM J g) (h0 : g 0 4 = 0) : RelM (zup (zup (zup (zup J 169 (10 + J 164 44) c) 170 (10 + J 164 44) n) 171 (10 + J 164 44) w) 164 44 (J 164 44 + 1)) (pSm g c n w) := by
  obtain ⟨h1, h2, h3⟩ := h
  obtain ⟨k1, e1, e2, ⟨e3, e4, e5⟩, e6, e7, e8, e9⟩ := h3 h0
  refine ⟨h1, fun q => absurd h0 q, fun _ => ⟨?_, e1, e2, ⟨?_, e4, e5⟩, e6, e7, e8, fun k a b => ⟨?_, ?_, ?_⟩⟩⟩
  · exact k1
  · show J 164 44 + 1 = g 164 44 + 1
    rw [e3]
  · show (if k = 10 + J 164 44 then c else J 169 k) = if k = 10 + g 164 44 then c else g 169 k
    rw [e3, (e9 k a b).1]
  · show (if k = 10 + J 164 44 then n else J 170 k) = if k = 10 + g 164 44 then n else g 170 k
    rw [e3, (e9 k a b).2.1]
  · show (if k = 10 + J 164 44 then w else J 171 k) = if k = 10 + g 164 44 then w else g 171 k
    rw [e3, (e9 k a b).2.2]
theorem pU_0 {g : zJ} {a b : Int} (h : (pU g a b).1 0 4 = 0) : g 0 4 = 0 := Classical.byContradiction (fun e => e (by rw [pU_f e] at h; exact h))
theorem pSy_f {g : zJ} (h : g 164 44 < 10) (h1 : ¬ (pS1 g).1 0 4 = 0) : pSy g = (pS1 g).1 := by
  have e2 : (pS2 g).1 = (pS1 g).1 := by unfold pS2; rw [pU_f h1]
  have e3 : (pS3 g).1 = (pS1 g).1 := by unfold pS3; rw [pU_f (by rw [e2]; exact h1)]; exact e2
  unfold pSy
  rw [if_pos h, e3, if_neg h1]
theorem RelM.room {J g : zJ} {z : Int} (h : RelM J g) (h0 : g 0 4 = 0) : RelM (zup (zup J 165 165 z) 164 45 1) (zup (zup g 165 165 z) 164 45 1) := by
  obtain ⟨h1, h2, h3⟩ := h
  obtain ⟨k1, e1, e2, ⟨e3, e4, e5⟩, e6, e7, e8, e9⟩ := h3 h0
  refine ⟨h1, fun q => absurd h0 q, fun _ => ⟨k1, e1, e2, ⟨e3, rfl, e5⟩, fun k a b => ?_, e7, e8, e9⟩⟩
  show (if k = 165 then z else J 165 k) = if k = 165 then z else g 165 k
  rw [e6 k a b]
set_option maxHeartbeats 4000000 in
set_option maxRecDepth 100000 in
theorem y_symbol1 {l : Launch} {G : tb_G} (hl : l.stackTraces = false) (n : Nat) (J : zJ)   (g : zJ) (hR : RelM J g) (h9 : g 0 4 = 0) (hS : SI g) (hP : RSP J) (h0a : 0 ≤ J 164 44 ∧ J 164 44 ≤ 10) : tz_Ok l G M_X12_symbol1 4 0 0 [.ref 164] n J (zqv (fun J' => RSy J' J ∧ RelM J' (pSy g) ∧ (J' 164 44 = J 164 44 + 1 → 1 ≤ J' 171 (10 + J 164 44) ∧ J' 171 (10 + J 164 44) ≤ 9))) zN := by
  refine tz_Ok.of hl (by decide +kernel) rfl (tb_c1 rfl) (Nat.le_of_ble_eq_true rfl) ?_
  show tz_At l G M_X12_symbol1 (tb_rm 4 0 0) none (tb_ZM G 0 0 (zQ n 0 (zqv (fun J' => RSy J' J ∧ RelM J' (pSy g) ∧ (J' 164 44 = J 164 44 + 1 → 1 ≤ J' 171 (10 + J 164 44) ∧ J' 171 (10 + J 164 44) ≤ 9)))) (zX n 0 zN)) 0 0 n J 0 [some (.ref 164), none, none, none] []
  have h0 : g 0 4 = 0 := h9
  have hT := hR.2.2 h0
  refine tz_aload_n (pc := 0) dX12_symbol1_0 rfl rfl ?_
  refine tz_aload_n (pc := 1) dX12_symbol1_1 rfl rfl ?_
  refine tz_fI (pc := 2) (kz := 44) (v := (J 164 44)) dX12_symbol1_2 fl_X12_287 i_164_44 rfl rfl (fun r_2 => ?_)
  refine tz_bipush (pc := 5) dX12_symbol1_5 (by decide) ?_
  refine tz_icmp_ge (pc := 7) (tgt := 14) dX12_symbol1_7 (by decide) (by omega) (by decide) (fun h_7 => ?_) (fun h_7 => ?_)
  · refine tz_iconst (pc := 14) dX12_symbol1_14 ?_
    refine tz_iconst (pc := 15) dX12_symbol1_15 ?_
    refine tz_cV (pc := 16) (y_wants hl n _ _ _ (by decide) (by decide) (g) hR (RGw.rf hP).2.1 (by decide)) vl_X12_276 dX12_symbol1_16 o_164 rfl rfl (Nat.le_of_ble_eq_true rfl) ⟨(Nat.le_of_ble_eq_true rfl), (Nat.le_of_ble_eq_true rfl)⟩ rfl rfl (Nat.le_of_ble_eq_true rfl) (Nat.le_of_ble_eq_true rfl) (fun r9 J_16 hq9 => ?_)
    obtain ⟨z_16, rfl, hz_16, w_16, o_16⟩ := hq9
    obtain ⟨rfl, v_16, r_16⟩ : z_16 = 0 ∧ ¬ J_16 164 43 = 0 ∧ RelM J_16 (pF (g) 2) := by rcases o_16 with q | q | q; exact absurd rfl q.2.1; exact ⟨q.2.2.1, q.2.2.2⟩; exact absurd h0 q.1
    have p_16 := (RGw.rf hP).tr w_16
    clear o_16
    refine tz_if_neF (pc := 19) (tgt := 23) (by decide) dX12_symbol1_19 (by decide) (by decide) ?_
    exact tz_vret (pc := 22) dX12_symbol1_22 rfl (Nat.le_of_ble_eq_true rfl) (Nat.le_of_ble_eq_true rfl) ⟨Nat.le_refl _, Nat.le_add_right _ _⟩ ⟨rfl, ⟨RSy.w p_16 h0a, by rw [show pSy g = pF g 2 from by unfold pSy; rw [if_neg (by rw [← hT.2.2.2.1.1]; omega)]]; exact r_16, fun q9 => by have := p_16.1.2 44 rfl (by decide) (by decide); omega⟩⟩
  · refine tz_iconst (pc := 10) dX12_symbol1_10 ?_
    refine tz_goto (pc := 11) (tgt := 15) dX12_symbol1_11 (by decide) ?_
    refine tz_iconst (pc := 15) dX12_symbol1_15 ?_
    refine tz_cV (pc := 16) (y_wants hl n _ _ _ (by decide) (by decide) (g) hR (RGw.rf hP).2.1 (by decide)) vl_X12_276 dX12_symbol1_16 o_164 rfl rfl (Nat.le_of_ble_eq_true rfl) ⟨(Nat.le_of_ble_eq_true rfl), (Nat.le_of_ble_eq_true rfl)⟩ rfl rfl (Nat.le_of_ble_eq_true rfl) (Nat.le_of_ble_eq_true rfl) (fun r9 J_16 hq9 => ?_)
    obtain ⟨z_16, rfl, hz_16, w_16, o_16⟩ := hq9
    obtain ⟨rfl, rfl⟩ : z_16 = 1 ∧ J = J_16 := by rcases o_16 with q | q | q; exact ⟨q.2.2.1, q.2.2.2⟩; exact absurd q.2.1 (by decide); exact absurd h0 q.1
    clear o_16
    refine tz_if_neT (pc := 19) (tgt := 23) (by decide) dX12_symbol1_19 (by decide) (by decide) ?_
    refine tz_aload_n (pc := 23) dX12_symbol1_23 rfl rfl ?_
    refine tz_cV (pc := 24) (y_go hl n _ (g) hR h0 hS) vl_X12_280 dX12_symbol1_24 o_164 rfl rfl (Nat.le_of_ble_eq_true rfl) ⟨(Nat.le_of_ble_eq_true rfl), (Nat.le_of_ble_eq_true rfl)⟩ rfl rfl (Nat.le_of_ble_eq_true rfl) (Nat.le_of_ble_eq_true rfl) (fun r9 J_24 hq9 => ?_)
    obtain ⟨rfl, r_24, w_24, u_24⟩ := hq9
    have p_24 := (RGw.rf hP).tr w_24
    have s_24 := SI.n hS
    have f_24 : (pN (g)) 0 4 = 0 := h0
    have hP_24 := p_24.2.1
    have t_24 := r_24.2.2 f_24
    clear u_24
    refine tz_aload_n (pc := 27) dX12_symbol1_27 rfl rfl ?_
    refine tz_aload_n (pc := 28) dX12_symbol1_28 rfl rfl ?_
    refine tz_fI (pc := 29) (kz := 38) (v := (J_24 164 38)) dX12_symbol1_29 fl_X12_261 i_164_38 rfl rfl (fun r_29 => ?_)
    refine tz_iconst (pc := 32) dX12_symbol1_32 ?_
    refine tz_icmp_ne (pc := 33) (tgt := 40) dX12_symbol1_33 (by decide) (by omega) (by decide) (fun h_33 => ?_) (fun h_33 => ?_)
    · refine tz_iconst (pc := 40) dX12_symbol1_40 ?_
      refine tz_iconst (pc := 41) dX12_symbol1_41 ?_
      refine tz_cV (pc := 42) (y_wants hl n _ _ _ (by decide) (by decide) (pN (g)) r_24 (p_24).2.1 (by decide)) vl_X12_276 dX12_symbol1_42 o_164 rfl rfl (Nat.le_of_ble_eq_true rfl) ⟨(Nat.le_of_ble_eq_true rfl), (Nat.le_of_ble_eq_true rfl)⟩ rfl rfl (Nat.le_of_ble_eq_true rfl) (Nat.le_of_ble_eq_true rfl) (fun r9 J_42 hq9 => ?_)
      obtain ⟨z_42, rfl, hz_42, w_42, o_42⟩ := hq9
      obtain ⟨rfl, v_42, r_42⟩ : z_42 = 0 ∧ ¬ J_42 164 43 = 0 ∧ RelM J_42 (pF (pN (g)) 1) := by rcases o_42 with q | q | q; exact absurd rfl q.2.1; exact ⟨q.2.2.1, q.2.2.2⟩; exact absurd f_24 q.1
      have p_42 := (p_24).tr w_42
      clear o_42
      refine tz_if_eqT (pc := 45) (tgt := 98) (by decide) dX12_symbol1_45 (by decide) (by decide) ?_
      exact tz_vret (pc := 98) dX12_symbol1_98 rfl (Nat.le_of_ble_eq_true rfl) (Nat.le_of_ble_eq_true rfl) ⟨Nat.le_refl _, Nat.le_add_right _ _⟩ ⟨rfl, (by have lt9 : g 164 44 < 10 := (by rw [← hT.2.2.2.1.1]; omega); have e1 : pS1 g = (pF (pN g) 1, 0) := (by unfold pS1 pNm; rw [if_neg (by have := t_24.1.so; omega)]); have e2 : pSy g = pF (pN g) 1 := (by rw [pSy_f lt9 (by rw [e1]; show ¬ (1 : Int) = 0; decide), e1]); exact ⟨RSy.w p_42 h0a, by rw [e2]; exact r_42, fun q9 => by have := p_42.1.2 44 rfl (by decide) (by decide); omega⟩)⟩
    · refine tz_iconst (pc := 36) dX12_symbol1_36 ?_
      refine tz_goto (pc := 37) (tgt := 41) dX12_symbol1_37 (by decide) ?_
      refine tz_iconst (pc := 41) dX12_symbol1_41 ?_
      refine tz_cV (pc := 42) (y_wants hl n _ _ _ (by decide) (by decide) (pN (g)) r_24 (p_24).2.1 (by decide)) vl_X12_276 dX12_symbol1_42 o_164 rfl rfl (Nat.le_of_ble_eq_true rfl) ⟨(Nat.le_of_ble_eq_true rfl), (Nat.le_of_ble_eq_true rfl)⟩ rfl rfl (Nat.le_of_ble_eq_true rfl) (Nat.le_of_ble_eq_true rfl) (fun r9 J_42 hq9 => ?_)
      obtain ⟨z_42, rfl, hz_42, w_42, o_42⟩ := hq9
      obtain ⟨rfl, rfl⟩ : z_42 = 1 ∧ J_24 = J_42 := by rcases o_42 with q | q | q; exact ⟨q.2.2.1, q.2.2.2⟩; exact absurd q.2.1 (by decide); exact absurd f_24 q.1
      clear o_42
      refine tz_if_eqF (pc := 45) (tgt := 98) (by decide) dX12_symbol1_45 (by decide) (by decide) ?_
      refine tz_aload_n (pc := 48) dX12_symbol1_48 rfl rfl ?_
      refine tz_aload_n (pc := 49) dX12_symbol1_49 rfl rfl ?_
      refine tz_fI (pc := 50) (kz := 41) (v := (J_24 164 41)) dX12_symbol1_50 fl_X12_252 i_164_41 rfl rfl (fun r_50 => ?_)
      refine tz_iconst (pc := 53) dX12_symbol1_53 ?_
      refine tz_icmp_ne (pc := 54) (tgt := 61) dX12_symbol1_54 (by decide) (by omega) (by decide) (fun h_54 => ?_) (fun h_54 => ?_)
      · refine tz_iconst (pc := 61) dX12_symbol1_61 ?_
        refine tz_iconst (pc := 62) dX12_symbol1_62 ?_
        refine tz_cV (pc := 63) (y_wants hl n _ _ _ (by decide) (by decide) (pN (g)) r_24 (p_24).2.1 (by decide)) vl_X12_276 dX12_symbol1_63 o_164 rfl rfl (Nat.le_of_ble_eq_true rfl) ⟨(Nat.le_of_ble_eq_true rfl), (Nat.le_of_ble_eq_true rfl)⟩ rfl rfl (Nat.le_of_ble_eq_true rfl) (Nat.le_of_ble_eq_true rfl) (fun r9 J_63 hq9 => ?_)
        obtain ⟨z_63, rfl, hz_63, w_63, o_63⟩ := hq9
        obtain ⟨rfl, v_63, r_63⟩ : z_63 = 0 ∧ ¬ J_63 164 43 = 0 ∧ RelM J_63 (pF (pN (g)) 2) := by rcases o_63 with q | q | q; exact absurd rfl q.2.1; exact ⟨q.2.2.1, q.2.2.2⟩; exact absurd f_24 q.1
        have p_63 := (p_24).tr w_63
        clear o_63
        refine tz_if_eqT (pc := 66) (tgt := 98) (by decide) dX12_symbol1_66 (by decide) (by decide) ?_
        exact tz_vret (pc := 98) dX12_symbol1_98 rfl (Nat.le_of_ble_eq_true rfl) (Nat.le_of_ble_eq_true rfl) ⟨Nat.le_refl _, Nat.le_add_right _ _⟩ ⟨rfl, (by have lt9 : g 164 44 < 10 := (by rw [← hT.2.2.2.1.1]; omega); have e1 : pS1 g = (pF (pN g) 2, 0) := (by unfold pS1 pNm; rw [if_pos (by have := t_24.1.so; omega), if_neg (by have := t_24.1.so; omega)]); have e2 : pSy g = pF (pN g) 2 := (by rw [pSy_f lt9 (by rw [e1]; show ¬ (2 : Int) = 0; decide), e1]); exact ⟨RSy.w p_63 h0a, by rw [e2]; exact r_63, fun q9 => by have := p_63.1.2 44 rfl (by decide) (by decide); omega⟩)⟩
      · refine tz_iconst (pc := 57) dX12_symbol1_57 ?_
        refine tz_goto (pc := 58) (tgt := 62) dX12_symbol1_58 (by decide) ?_
        refine tz_iconst (pc := 62) dX12_symbol1_62 ?_
        refine tz_cV (pc := 63) (y_wants hl n _ _ _ (by decide) (by decide) (pN (g)) r_24 (p_24).2.1 (by decide)) vl_X12_276 dX12_symbol1_63 o_164 rfl rfl (Nat.le_of_ble_eq_true rfl) ⟨(Nat.le_of_ble_eq_true rfl), (Nat.le_of_ble_eq_true rfl)⟩ rfl rfl (Nat.le_of_ble_eq_true rfl) (Nat.le_of_ble_eq_true rfl) (fun r9 J_63 hq9 => ?_)
        obtain ⟨z_63, rfl, hz_63, w_63, o_63⟩ := hq9
        obtain ⟨rfl, rfl⟩ : z_63 = 1 ∧ J_24 = J_63 := by rcases o_63 with q | q | q; exact ⟨q.2.2.1, q.2.2.2⟩; exact absurd q.2.1 (by decide); exact absurd f_24 q.1
        clear o_63
        refine tz_if_eqF (pc := 66) (tgt := 98) (by decide) dX12_symbol1_66 (by decide) (by decide) ?_
        refine tz_aload_n (pc := 69) dX12_symbol1_69 rfl rfl ?_
        refine tz_aload_n (pc := 70) dX12_symbol1_70 rfl rfl ?_
        refine tz_aload_n (pc := 71) dX12_symbol1_71 rfl rfl ?_
        refine tz_aload_n (pc := 72) dX12_symbol1_72 rfl rfl ?_
        refine tz_fI (pc := 73) (kz := 36) (v := (J_24 164 36)) dX12_symbol1_73 fl_X12_246 i_164_36 rfl rfl (fun r_73 => ?_)
        have hp9 := hP_24.2.1
        refine tz_cV (pc := 76) (m_byteAt hl n _ _ (by omega) (by omega) hP_24.1.1.2) vl_X12_240 dX12_symbol1_76 o_164 rfl rfl (Nat.le_of_ble_eq_true rfl) ⟨(Nat.le_of_ble_eq_true rfl), (Nat.le_of_ble_eq_true rfl)⟩ rfl rfl (Nat.le_of_ble_eq_true rfl) (Nat.le_of_ble_eq_true rfl) (fun r9 J_76 hq9 => ?_)
        obtain ⟨z_76, rfl, hz_76, rfl, -, hc_76⟩ := hq9
        have e44 : J_24 164 44 = J 164 44 := (p_24).1.2 44 rfl (by decide) (by decide)
        have hq9 : J_24 164 36 < J_24 164 37 := by rw [t_24.1.1, t_24.2.1]; have := s_24.2.2; have := t_24.1.so; omega
        have hb9 := hc_76 hq9
        rw [t_24.1.1, t_24.2.2.1] at hb9
        refine tz_cV (pc := 79) (x_symOf hl n _ _ (by omega) (by rw [e44]; omega)) vl_X12_293 dX12_symbol1_79 o_164 rfl rfl (Nat.le_of_ble_eq_true rfl) ⟨(Nat.le_of_ble_eq_true rfl), (Nat.le_of_ble_eq_true rfl)⟩ rfl rfl (Nat.le_of_ble_eq_true rfl) (Nat.le_of_ble_eq_true rfl) (fun r9 J_79 hq9 => ?_)
        obtain ⟨z_79, rfl, hz_79, rfl, hs9⟩ := hq9
        have hps : fnB (fun k => decide (¬ J_24 169 (10 + k) = z_76)) (J_24 164 44) 0 = psy (pN (g)) ((pN (g)) 1 ((pN (g)) 0 1)) := by rw [← hb9]; unfold psy; rw [t_24.2.2.2.1.1]; exact fnB_cg (fun j a b => by rw [(t_24.2.2.2.2.2.2.2 (10 + j) (by omega) (by rw [← t_24.2.2.2.1.1, e44] at b; omega)).1])
        rw [hps] at hs9
        rw [t_24.2.2.2.1.1] at hs9
        refine tz_iconst (pc := 82) dX12_symbol1_82 ?_
        refine tz_icmp_ne (pc := 83) (tgt := 90) dX12_symbol1_83 (by decide) (by omega) (by decide) (fun h_83 => ?_) (fun h_83 => ?_)
        · refine tz_iconst (pc := 90) dX12_symbol1_90 ?_
          refine tz_iconst (pc := 91) dX12_symbol1_91 ?_
          refine tz_cV (pc := 92) (y_wants hl n _ _ _ (by decide) (by decide) (pN (g)) r_24 (p_24).2.1 (by decide)) vl_X12_276 dX12_symbol1_92 o_164 rfl rfl (Nat.le_of_ble_eq_true rfl) ⟨(Nat.le_of_ble_eq_true rfl), (Nat.le_of_ble_eq_true rfl)⟩ rfl rfl (Nat.le_of_ble_eq_true rfl) (Nat.le_of_ble_eq_true rfl) (fun r9 J_92 hq9 => ?_)
          obtain ⟨z_92, rfl, hz_92, w_92, o_92⟩ := hq9
          obtain ⟨rfl, v_92, r_92⟩ : z_92 = 0 ∧ ¬ J_92 164 43 = 0 ∧ RelM J_92 (pF (pN (g)) 4) := by rcases o_92 with q | q | q; exact absurd rfl q.2.1; exact ⟨q.2.2.1, q.2.2.2⟩; exact absurd f_24 q.1
          have p_92 := (p_24).tr w_92
          clear o_92
          refine tz_if_neF (pc := 95) (tgt := 99) (by decide) dX12_symbol1_95 (by decide) (by decide) ?_
          exact tz_vret (pc := 98) dX12_symbol1_98 rfl (Nat.le_of_ble_eq_true rfl) (Nat.le_of_ble_eq_true rfl) ⟨Nat.le_refl _, Nat.le_add_right _ _⟩ ⟨rfl, (by have lt9 : g 164 44 < 10 := (by rw [← hT.2.2.2.1.1]; omega); have e1 : pS1 g = (pF (pN g) 4, 0) := (by unfold pS1 pNm; rw [if_pos (by have := t_24.1.so; omega), if_pos (by have := t_24.1.so; omega), if_pos (by omega)]); have e2 : pSy g = pF (pN g) 4 := (by rw [pSy_f lt9 (by rw [e1]; show ¬ (4 : Int) = 0; decide), e1]); exact ⟨RSy.w p_92 h0a, by rw [e2]; exact r_92, fun q9 => by have := p_92.1.2 44 rfl (by decide) (by decide); omega⟩)⟩
        · refine tz_iconst (pc := 86) dX12_symbol1_86 ?_
          refine tz_goto (pc := 87) (tgt := 91) dX12_symbol1_87 (by decide) ?_
          refine tz_iconst (pc := 91) dX12_symbol1_91 ?_
          refine tz_cV (pc := 92) (y_wants hl n _ _ _ (by decide) (by decide) (pN (g)) r_24 (p_24).2.1 (by decide)) vl_X12_276 dX12_symbol1_92 o_164 rfl rfl (Nat.le_of_ble_eq_true rfl) ⟨(Nat.le_of_ble_eq_true rfl), (Nat.le_of_ble_eq_true rfl)⟩ rfl rfl (Nat.le_of_ble_eq_true rfl) (Nat.le_of_ble_eq_true rfl) (fun r9 J_92 hq9 => ?_)
          obtain ⟨z_92, rfl, hz_92, w_92, o_92⟩ := hq9
          obtain ⟨rfl, rfl⟩ : z_92 = 1 ∧ J_24 = J_92 := by rcases o_92 with q | q | q; exact ⟨q.2.2.1, q.2.2.2⟩; exact absurd q.2.1 (by decide); exact absurd f_24 q.1
          clear o_92
          refine tz_if_neT (pc := 95) (tgt := 99) (by decide) dX12_symbol1_95 (by decide) (by decide) ?_
          refine tz_aload_n (pc := 99) dX12_symbol1_99 rfl rfl ?_
          refine tz_aload_n (pc := 100) dX12_symbol1_100 rfl rfl ?_
          refine tz_fI (pc := 101) (kz := 36) (v := (J_24 164 36)) dX12_symbol1_101 fl_X12_246 i_164_36 rfl rfl (fun r_101 => ?_)
          have hp9 := hP_24.2.1
          refine tz_cV (pc := 104) (m_byteAt hl n _ _ (by omega) (by omega) hP_24.1.1.2) vl_X12_240 dX12_symbol1_104 o_164 rfl rfl (Nat.le_of_ble_eq_true rfl) ⟨(Nat.le_of_ble_eq_true rfl), (Nat.le_of_ble_eq_true rfl)⟩ rfl rfl (Nat.le_of_ble_eq_true rfl) (Nat.le_of_ble_eq_true rfl) (fun r9 J_104 hq9 => ?_)
          obtain ⟨z_104, rfl, hz_104, rfl, -, hc_104⟩ := hq9
          have hb104 : (pN g) 1 ((pN g) 0 1) = z_104 := by have q8 := hc_104 hq9; rw [t_24.1.1, t_24.2.2.1] at q8; exact q8
          refine tz_istore_n (pc := 107) (L2 := [_, _, _, _]) dX12_symbol1_107 rfl (by decide) rfl ?_
          refine tz_aload_n (pc := 108) dX12_symbol1_108 rfl rfl ?_
          refine tz_cV (pc := 109) (y_go hl n _ (pN (g)) r_24 f_24 s_24) vl_X12_280 dX12_symbol1_109 o_164 rfl rfl (Nat.le_of_ble_eq_true rfl) ⟨(Nat.le_of_ble_eq_true rfl), (Nat.le_of_ble_eq_true rfl)⟩ rfl rfl (Nat.le_of_ble_eq_true rfl) (Nat.le_of_ble_eq_true rfl) (fun r9 J_109 hq9 => ?_)
          obtain ⟨rfl, r_109, w_109, u_109⟩ := hq9
          have p_109 := (p_24).tr w_109
          have s_109 := SI.n s_24
          have f_109 : (pN (pN (g))) 0 4 = 0 := f_24
          have hP_109 := p_109.2.1
          have t_109 := r_109.2.2 f_109
          clear u_109
          refine tz_aload_n (pc := 112) dX12_symbol1_112 rfl rfl ?_
          refine tz_iconst (pc := 113) dX12_symbol1_113 ?_
          refine tz_iconst (pc := 114) dX12_symbol1_114 ?_
          refine tz_cV (pc := 115) (y_number hl n _ _ _ (by decide) (by decide) (pN (pN (g))) r_109 s_109 (p_109).2.1 (by decide)) vl_X12_290 dX12_symbol1_115 o_164 rfl rfl (Nat.le_of_ble_eq_true rfl) ⟨(Nat.le_of_ble_eq_true rfl), (Nat.le_of_ble_eq_true rfl)⟩ rfl rfl (Nat.le_of_ble_eq_true rfl) (Nat.le_of_ble_eq_true rfl) (fun r9 J_115 hq9 => ?_)
          obtain ⟨z_115, rfl, hz_115, w_115, b_115, r_115, e_115⟩ := hq9
          have p_115 := (p_109).tr w_115
          have s_115 := SI.u (a := 0) (b := 3) s_109
          refine tz_istore_n (pc := 118) (L2 := [_, _, _, _]) dX12_symbol1_118 rfl (by decide) rfl ?_
          refine tz_aload_n (pc := 119) dX12_symbol1_119 rfl rfl ?_
          refine tz_iconst (pc := 120) dX12_symbol1_120 ?_
          refine tz_bipush (pc := 121) dX12_symbol1_121 (by decide) ?_
          refine tz_cV (pc := 123) (y_number hl n _ _ _ (by decide) (by decide) ((pU (pN (pN (g))) 0 3).1) r_115 s_115 (p_115).2.1 (by decide)) vl_X12_290 dX12_symbol1_123 o_164 rfl rfl (Nat.le_of_ble_eq_true rfl) ⟨(Nat.le_of_ble_eq_true rfl), (Nat.le_of_ble_eq_true rfl)⟩ rfl rfl (Nat.le_of_ble_eq_true rfl) (Nat.le_of_ble_eq_true rfl) (fun r9 J_123 hq9 => ?_)
          obtain ⟨z_123, rfl, hz_123, w_123, b_123, r_123, e_123⟩ := hq9
          have p_123 := (p_115).tr w_123
          have s_123 := SI.u (a := 1) (b := 9) s_115
          refine tz_istore_n (pc := 126) (L2 := [_, _, _, _]) dX12_symbol1_126 rfl (by decide) rfl ?_
          refine tz_aload_n (pc := 127) dX12_symbol1_127 rfl rfl ?_
          refine tz_fR (pc := 128) dX12_symbol1_128 fl_X12_22 r_164_4 ?_
          refine tz_bipush (pc := 131) dX12_symbol1_131 (by decide) ?_
          refine tz_aload_n (pc := 133) dX12_symbol1_133 rfl rfl ?_
          refine tz_fI (pc := 134) (kz := 44) (v := (J 164 44)) dX12_symbol1_134 fl_X12_287 i_164_44 rfl (Eq.trans (w_123.1.2 44 rfl (by decide) (by decide)) (Eq.trans (w_115.1.2 44 rfl (by decide) (by decide)) (Eq.trans (w_109.1.2 44 rfl (by decide) (by decide)) (Eq.trans (w_24.1.2 44 rfl (by decide) (by decide)) rfl)))) (fun r_134 => ?_)
          refine tz_iadd (pc := 137) (v := 10 + (J 164 44)) dX12_symbol1_137 rfl ?_
          refine tz_iload_n (pc := 138) dX12_symbol1_138 rfl rfl ?_
          refine tz_aS (pc := 139) (z := (10 + (J 164 44))) dX12_symbol1_139 a_169 rfl (by omega) (by omega) ?_
          refine tz_aload_n (pc := 140) dX12_symbol1_140 rfl rfl ?_
          refine tz_fR (pc := 141) dX12_symbol1_141 fl_X12_25 r_164_5 ?_
          refine tz_bipush (pc := 144) dX12_symbol1_144 (by decide) ?_
          refine tz_aload_n (pc := 146) dX12_symbol1_146 rfl rfl ?_
          refine tz_fI (pc := 147) (kz := 44) (v := (J 164 44)) dX12_symbol1_147 fl_X12_287 i_164_44 rfl (Eq.trans (w_123.1.2 44 rfl (by decide) (by decide)) (Eq.trans (w_115.1.2 44 rfl (by decide) (by decide)) (Eq.trans (w_109.1.2 44 rfl (by decide) (by decide)) (Eq.trans (w_24.1.2 44 rfl (by decide) (by decide)) rfl)))) (fun r_147 => ?_)
          refine tz_iadd (pc := 150) (v := 10 + (J 164 44)) dX12_symbol1_150 rfl ?_
          refine tz_iload_n (pc := 151) dX12_symbol1_151 rfl rfl ?_
          refine tz_aS (pc := 152) (z := (10 + (J 164 44))) dX12_symbol1_152 a_170 rfl (by omega) (by omega) ?_
          refine tz_aload_n (pc := 153) dX12_symbol1_153 rfl rfl ?_
          refine tz_fR (pc := 154) dX12_symbol1_154 fl_X12_28 r_164_6 ?_
          refine tz_bipush (pc := 157) dX12_symbol1_157 (by decide) ?_
          refine tz_aload_n (pc := 159) dX12_symbol1_159 rfl rfl ?_
          refine tz_fI (pc := 160) (kz := 44) (v := (J 164 44)) dX12_symbol1_160 fl_X12_287 i_164_44 rfl (Eq.trans (w_123.1.2 44 rfl (by decide) (by decide)) (Eq.trans (w_115.1.2 44 rfl (by decide) (by decide)) (Eq.trans (w_109.1.2 44 rfl (by decide) (by decide)) (Eq.trans (w_24.1.2 44 rfl (by decide) (by decide)) rfl)))) (fun r_160 => ?_)
          refine tz_iadd (pc := 163) (v := 10 + (J 164 44)) dX12_symbol1_163 rfl ?_
          refine tz_iload_n (pc := 164) dX12_symbol1_164 rfl rfl ?_
          refine tz_aS (pc := 165) (z := (10 + (J 164 44))) dX12_symbol1_165 a_171 rfl (by omega) (by omega) ?_
          refine tz_aload_n (pc := 166) dX12_symbol1_166 rfl rfl ?_
          refine tz_dup (pc := 167) dX12_symbol1_167 rfl ?_
          refine tz_fI (pc := 168) (kz := 44) (v := (J 164 44)) dX12_symbol1_168 fl_X12_287 i_164_44 rfl (Eq.trans (w_123.1.2 44 rfl (by decide) (by decide)) (Eq.trans (w_115.1.2 44 rfl (by decide) (by decide)) (Eq.trans (w_109.1.2 44 rfl (by decide) (by decide)) (Eq.trans (w_24.1.2 44 rfl (by decide) (by decide)) rfl)))) (fun r_168 => ?_)
          refine tz_iconst (pc := 171) dX12_symbol1_171 ?_
          refine tz_iadd (pc := 172) (v := (J 164 44) + 1) dX12_symbol1_172 rfl ?_
          refine tz_pI (pc := 173) (kz := 44) dX12_symbol1_173 fl_X12_287 i_164_44 rfl rfl (by omega) ?_
          exact tz_vret (pc := 176) dX12_symbol1_176 rfl (Nat.le_of_ble_eq_true rfl) (Nat.le_of_ble_eq_true rfl) ⟨Nat.le_refl _, Nat.le_add_right _ _⟩ ⟨rfl, (by have lt9 : g 164 44 < 10 := (by rw [← hT.2.2.2.1.1]; omega); have e1 : pS1 g = (pN (pN g), (pN g) 1 ((pN g) 0 1)) := (by unfold pS1 pNm; rw [if_pos (by have := t_24.1.so; omega), if_pos (by have := t_24.1.so; omega), if_neg (by omega)]); have e2 : pS2 g = pU (pN (pN g)) 0 3 := (by unfold pS2; rw [e1]); have e3 : pS3 g = pU (pU (pN (pN g)) 0 3).1 1 9 := (by unfold pS3; rw [e2]); have e44 : J_123 164 44 = J 164 44 := p_123.1.2 44 rfl (by decide) (by decide); refine ⟨RSy.n p_123 (by omega) (by omega), ?_, fun _ => by show 1 ≤ (if 10 + J 164 44 = 10 + J 164 44 then z_123 else J_123 171 (10 + J 164 44)) ∧ (if 10 + J 164 44 = 10 + J 164 44 then z_123 else J_123 171 (10 + J 164 44)) ≤ 9; rw [if_pos rfl]; omega⟩; by_cases hc : (pS3 g).1 0 4 = 0; (rw [e3] at hc; have h2 := pU_0 hc; have v2 := e_115 h2; have v3 := e_123 hc; have k9 := RelM.sym (c := z_104) (n := z_115) (w := z_123) r_123 hc; rw [e44] at k9; have e5 : pSy g = pSm (pU (pU (pN (pN g)) 0 3).1 1 9).1 z_104 z_115 z_123 := (by unfold pSy; rw [if_pos lt9, e3, if_pos hc, e1, e2, v2, v3, ← hb104]); rw [e5]; exact k9); (have e5 : pSy g = (pS3 g).1 := (by unfold pSy; rw [if_pos lt9, if_neg hc]); rw [e5]; rw [e3] at hc ⊢; exact RelM.far r_123 hc rfl rfl rfl rfl))⟩

end
