theorem z_164_9 : tb_I0 164 9 = 0 := by decide +kernel
theorem z_164_10 : tb_I0 164 10 = 0 := by decide +kernel
theorem z_164_11 : tb_I0 164 11 = 0 := by decide +kernel
theorem z_164_14 : tb_I0 164 14 = 0 := by decide +kernel
theorem z_164_15 : tb_I0 164 15 = 0 := by decide +kernel
theorem z_164_16 : tb_I0 164 16 = 0 := by decide +kernel
theorem z_164_17 : tb_I0 164 17 = 0 := by decide +kernel
theorem z_164_19 : tb_I0 164 19 = 0 := by decide +kernel
theorem z_164_20 : tb_I0 164 20 = (-1) := by decide +kernel
theorem z_165_0 : tb_I0 165 0 = 0 := by decide +kernel
theorem z_165_1 : tb_I0 165 1 = 0 := by decide +kernel
theorem z_165_2 : tb_I0 165 2 = 0 := by decide +kernel
theorem z_165_3 : tb_I0 165 3 = 0 := by decide +kernel
theorem z_165_4 : tb_I0 165 4 = 0 := by decide +kernel
theorem z_165_5 : tb_I0 165 5 = 0 := by decide +kernel
theorem z_165_6 : tb_I0 165 6 = 0 := by decide +kernel
theorem z_165_7 : tb_I0 165 7 = 0 := by decide +kernel
theorem z_165_8 : tb_I0 165 8 = 0 := by decide +kernel
theorem z_165_9 : tb_I0 165 9 = 0 := by decide +kernel
theorem z_165_26 : tb_I0 165 26 = 0 := by decide +kernel
theorem z_165_39 : tb_I0 165 39 = 4 := by decide +kernel
theorem z_165_40 : tb_I0 165 40 = 0 := by decide +kernel
theorem z_165_61 : tb_I0 165 61 = 0 := by decide +kernel
theorem z_165_62 : tb_I0 165 62 = 0 := by decide +kernel
theorem z_172_0 : tb_I0 172 0 = 0 := by decide +kernel
theorem z_172_1 : tb_I0 172 1 = 0 := by decide +kernel
theorem z_172_2 : tb_I0 172 2 = 0 := by decide +kernel
theorem z_172_3 : tb_I0 172 3 = 0 := by decide +kernel
def zMV (m : Int) (J : zJ) : Prop := (J 164 15 = 0 ∧ J 164 16 = 0 ∧ J 164 17 = 0 ∧ J 164 21 = 0 ∧ J 164 9 = 0 ∧ J 164 34 = 0) ∧ J 165 0 = m ∧ (0 ≤ m ∧ m ≤ 30) ∧ ∀ t, 0 ≤ t → t < m → J 166 t < 0
set_option maxHeartbeats 4000000 in
set_option maxRecDepth 100000 in
theorem zm_isThat0 {l : Launch} {G : tb_G} (hl : l.stackTraces = false) (n : Nat) (J : zJ) (t : Int) (h : Int) (a : Int) (b : Int) (c : Int) (hr_t : -2147483648 ≤ t ∧ t < 2147483648) (hr_h : -2147483648 ≤ h ∧ h < 2147483648) (hr_a : -2147483648 ≤ a ∧ a < 2147483648) (hr_b : -2147483648 ≤ b ∧ b < 2147483648) (hr_c : -2147483648 ≤ c ∧ c < 2147483648)  (h0 : 0 ≤ J 164 15 + t ∧ J 164 15 + t < 1200) : tz_Ok l G M_X12_isThat 1 0 0 [.ref 164, zi t, zi h, zi 0, zi a, zi b, zi c] n J (zqi (fun z J' => J = J' ∧ (if J 166 (J 164 15 + t) = h then 1 else 0) = z)) zN := by
  refine tz_Ok.of hl (by decide +kernel) rfl (tb_c1 rfl) (Nat.le_of_ble_eq_true rfl) ?_
  show tz_At l G M_X12_isThat (tb_rm 1 0 0) none (tb_ZM G 0 0 (zQ n 0 (zqi (fun z J' => J = J' ∧ (if J 166 (J 164 15 + t) = h then 1 else 0) = z))) (zX n 0 zN)) 0 0 n J 0 [some (.ref 164), some (zi t), some (zi h), some (zi 0), some (zi a), some (zi b), some (zi c)] []
  refine tz_aload_n (pc := 0) dX12_isThat_0 rfl rfl ?_
  refine tz_iload_n (pc := 1) dX12_isThat_1 rfl rfl ?_
  refine tz_cV (pc := 2) (zm_head hl n _ _ hr_t h0) vl_X12_74 dX12_isThat_2 o_164 rfl rfl (Nat.le_of_ble_eq_true rfl) ⟨(Nat.le_of_ble_eq_true rfl), (Nat.le_of_ble_eq_true rfl)⟩ rfl rfl (Nat.le_of_ble_eq_true rfl) (Nat.le_of_ble_eq_true rfl) (fun r9 J_2 hq9 => ?_)
  obtain ⟨z_2, rfl, hz_2, rfl, rfl⟩ := hq9
  refine tz_iload_n (pc := 5) dX12_isThat_5 rfl rfl ?_
  refine tz_icmp_eq (pc := 6) (tgt := 11) dX12_isThat_6 (by decide) (by omega) (by omega) (fun h_6 => ?_) (fun h_6 => ?_)
  · refine tz_iload_n (pc := 11) dX12_isThat_11 rfl rfl ?_
    refine tz_iconst (pc := 12) dX12_isThat_12 ?_
    refine tz_icmp_ltT (pc := 13) (tgt := 27) (by decide) dX12_isThat_13 (by decide) (by decide) (by decide) ?_
    refine tz_iload_n (pc := 27) dX12_isThat_27 rfl rfl ?_
    refine tz_iconst (pc := 28) dX12_isThat_28 ?_
    refine tz_icmp_ltT (pc := 29) (tgt := 43) (by decide) dX12_isThat_29 (by decide) (by decide) (by decide) ?_
    refine tz_iload_n (pc := 43) dX12_isThat_43 rfl rfl ?_
    refine tz_iconst (pc := 44) dX12_isThat_44 ?_
    refine tz_icmp_ltT (pc := 45) (tgt := 59) (by decide) dX12_isThat_45 (by decide) (by decide) (by decide) ?_
    refine tz_iconst (pc := 59) dX12_isThat_59 ?_
    refine tz_goto (pc := 60) (tgt := 64) dX12_isThat_60 (by decide) ?_
    exact tz_zret (pc := 64) (z := 1) dX12_isThat_64 rfl (Or.inr rfl) (Nat.le_of_ble_eq_true rfl) (Nat.le_of_ble_eq_true rfl) ⟨Nat.le_refl _, Nat.le_add_right _ _⟩ ⟨_, rfl, (by decide), ⟨rfl, by split <;> omega⟩⟩
  · refine tz_iconst (pc := 9) dX12_isThat_9 ?_
    exact tz_zret (pc := 10) (z := 0) dX12_isThat_10 rfl (Or.inl rfl) (Nat.le_of_ble_eq_true rfl) (Nat.le_of_ble_eq_true rfl) ⟨Nat.le_refl _, Nat.le_add_right _ _⟩ ⟨_, rfl, (by decide), ⟨rfl, by split <;> omega⟩⟩

theorem zm1_fin {J : zJ} {m h : Int} (hb : J 164 15 = 0) (hrw : J 164 16 = 0) (hnm : J 164 17 = 0) (hfu : J 164 21 = 0) (hsy : J 164 9 = 0) (hst : J 164 34 = 0) (hc : J 165 0 = m) (hm : 0 ≤ m ∧ m ≤ 30) (hh : ∀ t, 0 ≤ t → t < m → J 166 t < 0) (hm9 : m ≤ 29) (hh9 : -8 ≤ h ∧ h < 0) :
    zMV (m + 1) (zup (zup (zup (zup (zup (zup (zup J 164 21 0) 166 (0 + m) h) 167 (3 * (0 + m)) (-1)) 167 (3 * (0 + m) + 1) (-1)) 167 (3 * (0 + m) + 2) (-1)) 168 (0 + m) 1) 165 0 (m + 1)) ∧ (m ≤ m + 1 ∧ m + 1 ≤ m + 1 ∧ 0 ≤ m ∧ m < m + 1) ∧ (∀ k, ¬ k = 46 → (zup (zup (zup (zup (zup (zup (zup J 164 21 0) 166 (0 + m) h) 167 (3 * (0 + m)) (-1)) 167 (3 * (0 + m) + 1) (-1)) 167 (3 * (0 + m) + 2) (-1)) 168 (0 + m) 1) 165 0 (m + 1)) 164 k = J 164 k) ∧ (∀ k, ¬ k = 0 → (zup (zup (zup (zup (zup (zup (zup J 164 21 0) 166 (0 + m) h) 167 (3 * (0 + m)) (-1)) 167 (3 * (0 + m) + 1) (-1)) 167 (3 * (0 + m) + 2) (-1)) 168 (0 + m) 1) 165 0 (m + 1)) 165 k = J 165 k) ∧ zOf (zbut [164, 165, 166, 167, 168]) (zup (zup (zup (zup (zup (zup (zup J 164 21 0) 166 (0 + m) h) 167 (3 * (0 + m)) (-1)) 167 (3 * (0 + m) + 1) (-1)) 167 (3 * (0 + m) + 2) (-1)) 168 (0 + m) 1) 165 0 (m + 1)) J := by
  refine ⟨⟨⟨hb, hrw, hnm, rfl, hsy, hst⟩, rfl, by omega, fun t h0 h1 => ?_⟩, by omega, fun k _ => ?_, fun k hk => ?_, ?_⟩
  · show (if t = 0 + m then h else J 166 t) < 0
    split
    · exact hh9.2
    · exact hh t h0 (by omega)
  · show (if k = 21 then 0 else J 164 k) = J 164 k
    split
    · rename_i e; rw [e, hfu]
    · rfl
  · show (if k = 0 then m + 1 else J 165 k) = J 165 k
    rw [if_neg hk]
  · exact zOf.up rfl (zOf.up rfl (zOf.up rfl (zOf.up rfl (zOf.up rfl (zOf.up rfl (zOf.up rfl zOf.rf))))))
set_option maxHeartbeats 4000000 in
set_option maxRecDepth 100000 in
theorem zm1_termOf {l : Launch} {G : tb_G} (hl : l.stackTraces = false) (n : Nat) (J : zJ) (h : Int) (hr_h : -2147483648 ≤ h ∧ h < 2147483648) (m : Int) (MV : zMV m J) (hm9 : m ≤ 29) (hh9 : -8 ≤ h ∧ h < 0) : tz_Ok l G M_X12_termOf 2 0 0 [.ref 164, zi h, zi 0, zi 0, zi 0] n J (zqi (fun z J' => ∃ m', zMV m' J' ∧ (m ≤ m' ∧ m' ≤ m + 1 ∧ 0 ≤ z ∧ z < m') ∧ (∀ k, ¬ k = 46 → J' 164 k = J 164 k) ∧ (∀ k, ¬ k = 0 → J' 165 k = J 165 k) ∧ zOf (zbut [164, 165, 166, 167, 168]) J' J)) zN := by
  refine tz_Ok.of hl (by decide +kernel) rfl (tb_c1 rfl) (Nat.le_of_ble_eq_true rfl) ?_
  show tz_At l G M_X12_termOf (tb_rm 2 0 0) none (tb_ZM G 0 0 (zQ n 0 (zqi (fun z J' => ∃ m', zMV m' J' ∧ (m ≤ m' ∧ m' ≤ m + 1 ∧ 0 ≤ z ∧ z < m') ∧ (∀ k, ¬ k = 46 → J' 164 k = J 164 k) ∧ (∀ k, ¬ k = 0 → J' 165 k = J 165 k) ∧ zOf (zbut [164, 165, 166, 167, 168]) J' J))) (zX n 0 zN)) 0 0 n J 0 [some (.ref 164), some (zi h), some (zi 0), some (zi 0), some (zi 0), none, none, none] []
  obtain ⟨⟨hb, hrw, hnm, hfu, hsy, hst⟩, hc, hm, hh⟩ := MV
  refine tz_aload_n (pc := 0) dX12_termOf_0 rfl rfl ?_
  refine tz_fI (pc := 1) (kz := 21) (v := 0) dX12_termOf_1 fl_X12_92 i_164_21 rfl hfu (fun _ => ?_)
  refine tz_if_eqT (pc := 4) (tgt := 9) (by decide) dX12_termOf_4 (by decide) (by decide) ?_
  refine tz_iload_n (pc := 9) dX12_termOf_9 rfl rfl ?_
  refine tz_if_geF (pc := 10) (tgt := 17) (by omega) dX12_termOf_10 (by decide) (by omega) ?_
  refine tz_iconst (pc := 13) dX12_termOf_13 ?_
  refine tz_goto (pc := 14) (tgt := 28) dX12_termOf_14 (by decide) ?_
  refine tz_istore (pc := 28) (L2 := [_, _, _, _, _, _, _, _]) dX12_termOf_28 (by decide) rfl ?_
  refine tz_iconst (pc := 30) dX12_termOf_30 ?_
  refine tz_istore (pc := 31) (L2 := [_, _, _, _, _, _, _, _]) dX12_termOf_31 (by decide) rfl ?_
  have loop33 : ∀ (f9 : Nat) (t : Int), ((m - t).toNat) < f9 → (0 ≤ t ∧ t ≤ m) → tz_At l G M_X12_termOf (tb_rm 2 0 0) none (tb_ZM G 0 0 (zQ n 0 (zqi (fun z J' => ∃ m', zMV m' J' ∧ (m ≤ m' ∧ m' ≤ m + 1 ∧ 0 ≤ z ∧ z < m') ∧ (∀ k, ¬ k = 46 → J' 164 k = J 164 k) ∧ (∀ k, ¬ k = 0 → J' 165 k = J 165 k) ∧ zOf (zbut [164, 165, 166, 167, 168]) J' J))) (zX n 0 zN)) 0 0 n J 33 [some (.ref 164), some (zi h), some (zi 0), some (zi 0), some (zi 0), some (zi 0), some (zi t), none] [] := by
    intro f9
    induction f9 with
    | zero => intro t hm9; exact absurd hm9 (Nat.not_lt_zero _)
    | succ f9 ih33 =>
      intro t hm33 ht
      refine tz_iload (pc := 33) dX12_termOf_33 rfl ?_
      refine tz_aload_n (pc := 35) dX12_termOf_35 rfl rfl ?_
      refine tz_cV (pc := 36) (zm_many hl n _ (by show 0 ≤ J 164 16 ∧ J 164 16 < 5400; omega)) vl_X12_96 dX12_termOf_36 o_164 rfl rfl (Nat.le_of_ble_eq_true rfl) ⟨(Nat.le_of_ble_eq_true rfl), (Nat.le_of_ble_eq_true rfl)⟩ rfl rfl (Nat.le_of_ble_eq_true rfl) (Nat.le_of_ble_eq_true rfl) (fun r9 J_36 hq9 => ?_)
      obtain ⟨z_36, rfl, hz_36, rfl, hv_36⟩ := hq9
      obtain rfl : m = z_36 := by rw [← hv_36]; show m = J 165 (J 164 16); rw [hrw, hc]
      refine tz_icmp_ge (pc := 39) (tgt := 67) dX12_termOf_39 (by decide) (by omega) (by omega) (fun h_39 => ?_) (fun h_39 => ?_)
      · refine tz_iconst (pc := 67) dX12_termOf_67 ?_
        refine tz_istore (pc := 68) (L2 := [_, _, _, _, _, _, _, _]) dX12_termOf_68 (by decide) rfl ?_
        refine tz_iload (pc := 70) dX12_termOf_70 rfl ?_
        refine tz_if_leT (pc := 72) (tgt := 95) (by decide) dX12_termOf_72 (by decide) (by decide) ?_
        refine tz_iload (pc := 95) dX12_termOf_95 rfl ?_
        refine tz_iconst (pc := 97) dX12_termOf_97 ?_
        refine tz_icmp_leT (pc := 98) (tgt := 121) (by decide) dX12_termOf_98 (by decide) (by decide) (by decide) ?_
        refine tz_iload (pc := 121) dX12_termOf_121 rfl ?_
        refine tz_iconst (pc := 123) dX12_termOf_123 ?_
        refine tz_icmp_leT (pc := 124) (tgt := 148) (by decide) dX12_termOf_124 (by decide) (by decide) (by decide) ?_
        refine tz_aload_n (pc := 148) dX12_termOf_148 rfl rfl ?_
        refine tz_iload (pc := 149) dX12_termOf_149 rfl ?_
        refine tz_bipush (pc := 151) dX12_termOf_151 (by decide) ?_
        refine tz_icmp_gtF (pc := 153) (tgt := 166) (by decide) dX12_termOf_153 (by decide) (by decide) (by decide) ?_
        refine tz_aload_n (pc := 156) dX12_termOf_156 rfl rfl ?_
        refine tz_cV (pc := 157) (zm_many hl n _ (by show 0 ≤ J 164 16 ∧ J 164 16 < 5400; omega)) vl_X12_96 dX12_termOf_157 o_164 rfl rfl (Nat.le_of_ble_eq_true rfl) ⟨(Nat.le_of_ble_eq_true rfl), (Nat.le_of_ble_eq_true rfl)⟩ rfl rfl (Nat.le_of_ble_eq_true rfl) (Nat.le_of_ble_eq_true rfl) (fun r9 J_157 hq9 => ?_)
        obtain ⟨z_157, rfl, hz_157, rfl, hv_157⟩ := hq9
        obtain rfl : m = z_157 := by rw [← hv_157]; show m = J 165 (J 164 16); rw [hrw, hc]
        refine tz_sipush (pc := 160) dX12_termOf_160 (by decide) ?_
        refine tz_icmp_neT (pc := 163) (tgt := 170) (by omega) dX12_termOf_163 (by decide) (by omega) (by decide) ?_
        refine tz_iconst (pc := 170) dX12_termOf_170 ?_
        refine tz_pZ (pc := 171) (kz := 21) dX12_termOf_171 fl_X12_92 i_164_21 rfl rfl (Or.inl rfl) ?_
        refine tz_aload_n (pc := 174) dX12_termOf_174 rfl rfl ?_
        refine tz_fI (pc := 175) (kz := 21) (v := 0) dX12_termOf_175 fl_X12_92 i_164_21 rfl rfl (fun _ => ?_)
        refine tz_if_eqT (pc := 178) (tgt := 183) (by decide) dX12_termOf_178 (by decide) (by decide) ?_
        refine tz_aload_n (pc := 183) dX12_termOf_183 rfl rfl ?_
        refine tz_cV (pc := 184) (zm_many hl n _ (by show 0 ≤ J 164 16 ∧ J 164 16 < 5400; omega)) vl_X12_96 dX12_termOf_184 o_164 rfl rfl (Nat.le_of_ble_eq_true rfl) ⟨(Nat.le_of_ble_eq_true rfl), (Nat.le_of_ble_eq_true rfl)⟩ rfl rfl (Nat.le_of_ble_eq_true rfl) (Nat.le_of_ble_eq_true rfl) (fun r9 J_184 hq9 => ?_)
        obtain ⟨z_184, rfl, hz_184, rfl, hv_184⟩ := hq9
        obtain rfl : m = z_184 := by rw [← hv_184]; show m = J 165 (J 164 16); rw [hrw, hc]
        refine tz_istore (pc := 187) (L2 := [_, _, _, _, _, _, _, _]) dX12_termOf_187 (by decide) rfl ?_
        refine tz_aload_n (pc := 189) dX12_termOf_189 rfl rfl ?_
        refine tz_fR (pc := 190) dX12_termOf_190 fl_X12_13 r_164_1 ?_
        refine tz_aload_n (pc := 193) dX12_termOf_193 rfl rfl ?_
        refine tz_fI (pc := 194) (kz := 15) (v := 0) dX12_termOf_194 fl_X12_71 i_164_15 rfl hb (fun _ => ?_)
        refine tz_iload (pc := 197) dX12_termOf_197 rfl ?_
        refine tz_iadd (pc := 199) (v := 0 + m) dX12_termOf_199 rfl ?_
        refine tz_iload_n (pc := 200) dX12_termOf_200 rfl rfl ?_
        refine tz_aS (pc := 201) (z := (0 + m)) dX12_termOf_201 a_166 rfl (by omega) (by omega) ?_
        refine tz_aload_n (pc := 202) dX12_termOf_202 rfl rfl ?_
        refine tz_fR (pc := 203) dX12_termOf_203 fl_X12_16 r_164_2 ?_
        refine tz_iconst (pc := 206) dX12_termOf_206 ?_
        refine tz_aload_n (pc := 207) dX12_termOf_207 rfl rfl ?_
        refine tz_fI (pc := 208) (kz := 15) (v := 0) dX12_termOf_208 fl_X12_71 i_164_15 rfl hb (fun _ => ?_)
        refine tz_iload (pc := 211) dX12_termOf_211 rfl ?_
        refine tz_iadd (pc := 213) (v := 0 + m) dX12_termOf_213 rfl ?_
        refine tz_imul (pc := 214) (v := 3 * (0 + m)) dX12_termOf_214 rfl ?_
        refine tz_iload (pc := 215) dX12_termOf_215 rfl ?_
        refine tz_if_leT (pc := 217) (tgt := 224) (by decide) dX12_termOf_217 (by decide) (by decide) ?_
        refine tz_iconst (pc := 224) dX12_termOf_224 ?_
        refine tz_aS (pc := 225) (z := (3 * (0 + m))) dX12_termOf_225 a_167 rfl (by omega) (by decide) ?_
        refine tz_aload_n (pc := 226) dX12_termOf_226 rfl rfl ?_
        refine tz_fR (pc := 227) dX12_termOf_227 fl_X12_16 r_164_2 ?_
        refine tz_iconst (pc := 230) dX12_termOf_230 ?_
        refine tz_aload_n (pc := 231) dX12_termOf_231 rfl rfl ?_
        refine tz_fI (pc := 232) (kz := 15) (v := 0) dX12_termOf_232 fl_X12_71 i_164_15 rfl hb (fun _ => ?_)
        refine tz_iload (pc := 235) dX12_termOf_235 rfl ?_
        refine tz_iadd (pc := 237) (v := 0 + m) dX12_termOf_237 rfl ?_
        refine tz_imul (pc := 238) (v := 3 * (0 + m)) dX12_termOf_238 rfl ?_
        refine tz_iconst (pc := 239) dX12_termOf_239 ?_
        refine tz_iadd (pc := 240) (v := (3 * (0 + m)) + 1) dX12_termOf_240 rfl ?_
        refine tz_iload (pc := 241) dX12_termOf_241 rfl ?_
        refine tz_iconst (pc := 243) dX12_termOf_243 ?_
        refine tz_icmp_leT (pc := 244) (tgt := 251) (by decide) dX12_termOf_244 (by decide) (by decide) (by decide) ?_
        refine tz_iconst (pc := 251) dX12_termOf_251 ?_
        refine tz_aS (pc := 252) (z := ((3 * (0 + m)) + 1)) dX12_termOf_252 a_167 rfl (by omega) (by decide) ?_
        refine tz_aload_n (pc := 253) dX12_termOf_253 rfl rfl ?_
        refine tz_fR (pc := 254) dX12_termOf_254 fl_X12_16 r_164_2 ?_
        refine tz_iconst (pc := 257) dX12_termOf_257 ?_
        refine tz_aload_n (pc := 258) dX12_termOf_258 rfl rfl ?_
        refine tz_fI (pc := 259) (kz := 15) (v := 0) dX12_termOf_259 fl_X12_71 i_164_15 rfl hb (fun _ => ?_)
        refine tz_iload (pc := 262) dX12_termOf_262 rfl ?_
        refine tz_iadd (pc := 264) (v := 0 + m) dX12_termOf_264 rfl ?_
        refine tz_imul (pc := 265) (v := 3 * (0 + m)) dX12_termOf_265 rfl ?_
        refine tz_iconst (pc := 266) dX12_termOf_266 ?_
        refine tz_iadd (pc := 267) (v := (3 * (0 + m)) + 2) dX12_termOf_267 rfl ?_
        refine tz_iload (pc := 268) dX12_termOf_268 rfl ?_
        refine tz_iconst (pc := 270) dX12_termOf_270 ?_
        refine tz_icmp_leT (pc := 271) (tgt := 279) (by decide) dX12_termOf_271 (by decide) (by decide) (by decide) ?_
        refine tz_iconst (pc := 279) dX12_termOf_279 ?_
        refine tz_aS (pc := 280) (z := ((3 * (0 + m)) + 2)) dX12_termOf_280 a_167 rfl (by omega) (by decide) ?_
        refine tz_aload_n (pc := 281) dX12_termOf_281 rfl rfl ?_
        refine tz_fR (pc := 282) dX12_termOf_282 fl_X12_19 r_164_3 ?_
        refine tz_aload_n (pc := 285) dX12_termOf_285 rfl rfl ?_
        refine tz_fI (pc := 286) (kz := 15) (v := 0) dX12_termOf_286 fl_X12_71 i_164_15 rfl hb (fun _ => ?_)
        refine tz_iload (pc := 289) dX12_termOf_289 rfl ?_
        refine tz_iadd (pc := 291) (v := 0 + m) dX12_termOf_291 rfl ?_
        refine tz_iload (pc := 292) dX12_termOf_292 rfl ?_
        refine tz_aS (pc := 294) (z := (0 + m)) dX12_termOf_294 a_168 rfl (by omega) (by decide) ?_
        refine tz_aload_n (pc := 295) dX12_termOf_295 rfl rfl ?_
        refine tz_fR (pc := 296) dX12_termOf_296 fl_X12_9 r_164_0 ?_
        refine tz_aload_n (pc := 299) dX12_termOf_299 rfl rfl ?_
        refine tz_fI (pc := 300) (kz := 16) (v := 0) dX12_termOf_300 fl_X12_85 i_164_16 rfl hrw (fun _ => ?_)
        refine tz_iconst (pc := 303) dX12_termOf_303 ?_
        refine tz_iadd (pc := 304) (v := 0) dX12_termOf_304 (by decide) ?_
        refine tz_dup2 (pc := 305) dX12_termOf_305 rfl rfl ?_
        refine tz_aL (pc := 306) (z := 0) (v := m) dX12_termOf_306 a_165 rfl (by decide) hc (fun r_306 => ?_)
        refine tz_iconst (pc := 307) dX12_termOf_307 ?_
        refine tz_iadd (pc := 308) (v := m + 1) dX12_termOf_308 rfl ?_
        refine tz_aS (pc := 309) (z := 0) dX12_termOf_309 a_165 rfl (by decide) (by omega) ?_
        refine tz_iload (pc := 310) dX12_termOf_310 rfl ?_
        exact tz_iret (pc := 312) (z := m) dX12_termOf_312 rfl (Nat.le_of_ble_eq_true rfl) (Nat.le_of_ble_eq_true rfl) ⟨Nat.le_refl _, Nat.le_add_right _ _⟩ ⟨_, rfl, (by omega), ⟨m + 1, zm1_fin hb hrw hnm hfu hsy hst hc hm hh hm9 hh9⟩⟩
      · refine tz_aload_n (pc := 42) dX12_termOf_42 rfl rfl ?_
        refine tz_iload (pc := 43) dX12_termOf_43 rfl ?_
        refine tz_iload_n (pc := 45) dX12_termOf_45 rfl rfl ?_
        refine tz_iload (pc := 46) dX12_termOf_46 rfl ?_
        refine tz_iload_n (pc := 48) dX12_termOf_48 rfl rfl ?_
        refine tz_iload_n (pc := 49) dX12_termOf_49 rfl rfl ?_
        refine tz_iload (pc := 50) dX12_termOf_50 rfl ?_
        refine tz_cV (pc := 52) (zm_isThat0 hl n _ _ _ _ _ _ (by omega) (by omega) (by decide) (by decide) (by decide) (by rw [hb]; omega)) vl_X12_100 dX12_termOf_52 o_164 rfl rfl (Nat.le_of_ble_eq_true rfl) ⟨(Nat.le_of_ble_eq_true rfl), (Nat.le_of_ble_eq_true rfl)⟩ rfl rfl (Nat.le_of_ble_eq_true rfl) (Nat.le_of_ble_eq_true rfl) (fun r9 J_52 hq9 => ?_)
        obtain ⟨z_52, rfl, hz_52, rfl, rfl⟩ := hq9
        refine tz_if_eq (pc := 55) (tgt := 61) dX12_termOf_55 (by decide) (by omega) (fun h_55 => ?_) (fun h_55 => ?_)
        · refine tz_iinc (pc := 61) (z := t + 1) (L2 := [_, _, _, _, _, _, _, _]) dX12_termOf_61 rfl (by omega) rfl ?_
          refine tz_goto (pc := 64) (tgt := 33) dX12_termOf_64 (by decide) ?_
          exact ih33 (t + 1) (by omega) (by omega)
        · refine tz_iload (pc := 58) dX12_termOf_58 rfl ?_
          exact tz_iret (pc := 60) (z := t) dX12_termOf_60 rfl (Nat.le_of_ble_eq_true rfl) (Nat.le_of_ble_eq_true rfl) ⟨Nat.le_refl _, Nat.le_add_right _ _⟩ ⟨_, rfl, (by omega), ⟨m, ⟨⟨hb, hrw, hnm, hfu, hsy, hst⟩, hc, hm, hh⟩, by omega, fun _ _ => rfl, fun _ _ => rfl, zOf.rf⟩⟩
  exact loop33 _ 0 (Nat.lt_succ_self _) (by omega)

set_option maxHeartbeats 4000000 in
set_option maxRecDepth 100000 in
theorem zm1_varTerm {l : Launch} {G : tb_G} (hl : l.stackTraces = false) (n : Nat) (J : zJ) (v : Int) (hr_v : -2147483648 ≤ v ∧ v < 2147483648) (m : Int) (MV : zMV m J) (hm9 : m ≤ 29) (hv9 : 0 ≤ v ∧ v < 8) : tz_Ok l G M_X12_variableTerm 3 0 0 [.ref 164, zi v] n J (zqi (fun z J' => ∃ m', zMV m' J' ∧ (m ≤ m' ∧ m' ≤ m + 1 ∧ 0 ≤ z ∧ z < m') ∧ (∀ k, ¬ k = 46 → J' 164 k = J 164 k) ∧ (∀ k, ¬ k = 0 → J' 165 k = J 165 k) ∧ zOf (zbut [164, 165, 166, 167, 168]) J' J)) zN := by
  refine tz_Ok.of hl (by decide +kernel) rfl (tb_c1 rfl) (Nat.le_of_ble_eq_true rfl) ?_
  show tz_At l G M_X12_variableTerm (tb_rm 3 0 0) none (tb_ZM G 0 0 (zQ n 0 (zqi (fun z J' => ∃ m', zMV m' J' ∧ (m ≤ m' ∧ m' ≤ m + 1 ∧ 0 ≤ z ∧ z < m') ∧ (∀ k, ¬ k = 46 → J' 164 k = J 164 k) ∧ (∀ k, ¬ k = 0 → J' 165 k = J 165 k) ∧ zOf (zbut [164, 165, 166, 167, 168]) J' J))) (zX n 0 zN)) 0 0 n J 0 [some (.ref 164), some (zi v)] []
  refine tz_aload_n (pc := 0) dX12_variableTerm_0 rfl rfl ?_
  refine tz_iconst (pc := 1) dX12_variableTerm_1 ?_
  refine tz_iload_n (pc := 2) dX12_variableTerm_2 rfl rfl ?_
  refine tz_isub (pc := 3) (v := (-1) - v) dX12_variableTerm_3 rfl ?_
  refine tz_iconst (pc := 4) dX12_variableTerm_4 ?_
  refine tz_iconst (pc := 5) dX12_variableTerm_5 ?_
  refine tz_iconst (pc := 6) dX12_variableTerm_6 ?_
  refine tz_cV (pc := 7) (zm1_termOf hl n _ _ (by omega) m MV hm9 (by omega)) vl_X12_107 dX12_variableTerm_7 o_164 rfl rfl (Nat.le_of_ble_eq_true rfl) ⟨(Nat.le_of_ble_eq_true rfl), (Nat.le_of_ble_eq_true rfl)⟩ rfl rfl (Nat.le_of_ble_eq_true rfl) (Nat.le_of_ble_eq_true rfl) (fun r9 J_7 hq9 => ?_)
  obtain ⟨z_7, rfl, hz_7, hp⟩ := hq9
  exact tz_iret (pc := 10) (z := z_7) dX12_variableTerm_10 rfl (Nat.le_of_ble_eq_true rfl) (Nat.le_of_ble_eq_true rfl) ⟨Nat.le_refl _, Nat.le_add_right _ _⟩ ⟨_, rfl, hz_7, hp⟩

set_option maxHeartbeats 4000000 in
set_option maxRecDepth 100000 in
theorem zm_drawOf {l : Launch} {G : tb_G} (hl : l.stackTraces = false) (n : Nat) (J : zJ) (k : Int) (hr_k : -2147483648 ≤ k ∧ k < 2147483648)  (h0 : 0 < k) : tz_Ok l G M_X12_drawOf 0 0 0 [.ref 164, zi k] n J (zqi (fun z J' => zup J 164 46 (zw (J 164 46 * 1103515245 + 12345)) = J' ∧ (0 ≤ z ∧ z < k) ∧ zand (zshr (zw (J 164 46 * 1103515245 + 12345)) 16) 32767 % k = z)) zN := by
  refine tz_Ok.of hl (by decide +kernel) rfl (tb_c1 rfl) (Nat.le_of_ble_eq_true rfl) ?_
  show tz_At l G M_X12_drawOf (tb_rm 0 0 0) none (tb_ZM G 0 0 (zQ n 0 (zqi (fun z J' => zup J 164 46 (zw (J 164 46 * 1103515245 + 12345)) = J' ∧ (0 ≤ z ∧ z < k) ∧ zand (zshr (zw (J 164 46 * 1103515245 + 12345)) 16) 32767 % k = z))) (zX n 0 zN)) 0 0 n J 0 [some (.ref 164), some (zi k)] []
  refine tz_aload_n (pc := 0) dX12_drawOf_0 rfl rfl ?_
  refine tz_aload_n (pc := 1) dX12_drawOf_1 rfl rfl ?_
  refine tz_fI (pc := 2) (kz := 46) (v := (J 164 46)) dX12_drawOf_2 fl_X12_423 i_164_46 rfl rfl (fun r_2 => ?_)
  refine tz_ldcw (pc := 5) (z := 1103515245) dX12_drawOf_5 ct_X12_426 (by decide) ?_
  refine tz_imul (pc := 8) (v := (J 164 46) * 1103515245) dX12_drawOf_8 rfl ?_
  refine tz_sipush (pc := 9) dX12_drawOf_9 (by decide) ?_
  refine tz_iadd (pc := 12) (v := ((J 164 46) * 1103515245) + 12345) dX12_drawOf_12 rfl ?_
  refine tz_tw ?_
  have rw_13 := zw_rg (((J 164 46) * 1103515245) + 12345)
  refine tz_pI (pc := 13) (kz := 46) dX12_drawOf_13 fl_X12_423 i_164_46 rfl rfl (zw_rg _) ?_
  refine tz_aload_n (pc := 16) dX12_drawOf_16 rfl rfl ?_
  refine tz_fI (pc := 17) (kz := 46) (v := (zw (((J 164 46) * 1103515245) + 12345))) dX12_drawOf_17 fl_X12_423 i_164_46 rfl rfl (fun r_17 => ?_)
  refine tz_bipush (pc := 20) dX12_drawOf_20 (by decide) ?_
  refine tz_ishr (pc := 22) (v := zshr (zw (((J 164 46) * 1103515245) + 12345)) 16) dX12_drawOf_22 rfl ?_
  refine tz_sipush (pc := 23) dX12_drawOf_23 (by decide) ?_
  refine tz_iand (pc := 26) (v := zand (zshr (zw (((J 164 46) * 1103515245) + 12345)) 16) 32767) dX12_drawOf_26 rfl ?_
  refine tz_iload_n (pc := 27) dX12_drawOf_27 rfl rfl ?_
  have ha9 := z_and (zshr (zw (J 164 46 * 1103515245 + 12345)) 16) (m := 32767) 15 (by decide) (by decide)
  refine tz_irem (pc := 28) (a := (zand (zshr (zw (((J 164 46) * 1103515245) + 12345)) 16) 32767)) (b := k) (v := ((zand (zshr (zw (((J 164 46) * 1103515245) + 12345)) 16) 32767) % k)) dX12_drawOf_28 (by omega) (by omega) rfl ?_
  exact tz_iret (pc := 29) (z := ((zand (zshr (zw (((J 164 46) * 1103515245) + 12345)) 16) 32767) % k)) dX12_drawOf_29 rfl (Nat.le_of_ble_eq_true rfl) (Nat.le_of_ble_eq_true rfl) ⟨Nat.le_refl _, Nat.le_add_right _ _⟩ ⟨_, rfl, (by have := Int.emod_nonneg (zand (zshr (zw (J 164 46 * 1103515245 + 12345)) 16) 32767) (show k ≠ 0 by omega); have := Int.emod_lt_of_pos (zand (zshr (zw (J 164 46 * 1103515245 + 12345)) 16) 32767) h0; omega), ⟨rfl, ⟨Int.emod_nonneg _ (by omega), Int.emod_lt_of_pos _ h0⟩, rfl⟩⟩

theorem zMV.its {m s : Int} {J : zJ} (h : zMV m J) : zMV m (zup J 164 46 s) := h
set_option maxHeartbeats 4000000 in
set_option maxRecDepth 100000 in
theorem zm1_drawn {l : Launch} {G : tb_G} (hl : l.stackTraces = false) (n : Nat) (J : zJ) (d : Int) (hr_d : -2147483648 ≤ d ∧ d < 2147483648) (m : Int) (MV : zMV m J) (hm9 : m ≤ 29) : tz_Ok l G M_X12_drawn 4 0 0 [.ref 164, zi d] n J (zqi (fun z J' => ∃ m', zMV m' J' ∧ (m ≤ m' ∧ m' ≤ m + 1 ∧ 0 ≤ z ∧ z < m') ∧ (∀ k, ¬ k = 46 → J' 164 k = J 164 k) ∧ (∀ k, ¬ k = 0 → J' 165 k = J 165 k) ∧ zOf (zbut [164, 165, 166, 167, 168]) J' J)) zN := by
  refine tz_Ok.of hl (by decide +kernel) rfl (tb_c1 rfl) (Nat.le_of_ble_eq_true rfl) ?_
  show tz_At l G M_X12_drawn (tb_rm 4 0 0) none (tb_ZM G 0 0 (zQ n 0 (zqi (fun z J' => ∃ m', zMV m' J' ∧ (m ≤ m' ∧ m' ≤ m + 1 ∧ 0 ≤ z ∧ z < m') ∧ (∀ k, ¬ k = 46 → J' 164 k = J 164 k) ∧ (∀ k, ¬ k = 0 → J' 165 k = J 165 k) ∧ zOf (zbut [164, 165, 166, 167, 168]) J' J))) (zX n 0 zN)) 0 0 n J 0 [some (.ref 164), some (zi d), none, none, none, none, none] []
  have MV0 := MV
  obtain ⟨⟨hb, hrw, hnm, hfu, hsy, hst⟩, hc, hm, hh⟩ := MV
  refine tz_aload_n (pc := 0) dX12_drawn_0 rfl rfl ?_
  refine tz_bipush (pc := 1) dX12_drawn_1 (by decide) ?_
  refine tz_cV (pc := 3) (zm_drawOf hl n _ _ (by decide) (by decide)) vl_X12_427 dX12_drawn_3 o_164 rfl rfl (Nat.le_of_ble_eq_true rfl) ⟨(Nat.le_of_ble_eq_true rfl), (Nat.le_of_ble_eq_true rfl)⟩ rfl rfl (Nat.le_of_ble_eq_true rfl) (Nat.le_of_ble_eq_true rfl) (fun r9 J_3 hq9 => ?_)
  obtain ⟨z_3, rfl, hz_3, rfl, hb_3, -⟩ := hq9
  refine tz_istore_n (pc := 6) (L2 := [_, _, _, _, _, _, _]) dX12_drawn_6 rfl (by decide) rfl ?_
  refine tz_iload_n (pc := 7) dX12_drawn_7 rfl rfl ?_
  refine tz_if_eq (pc := 8) (tgt := 23) dX12_drawn_8 (by decide) (by omega) (fun h_8 => ?_) (fun h_8 => ?_)
  · refine tz_aload_n (pc := 23) dX12_drawn_23 rfl rfl ?_
    refine tz_aload_n (pc := 24) dX12_drawn_24 rfl rfl ?_
    refine tz_iconst (pc := 25) dX12_drawn_25 ?_
    refine tz_cV (pc := 26) (zm_drawOf hl n _ _ (by decide) (by decide)) vl_X12_427 dX12_drawn_26 o_164 rfl rfl (Nat.le_of_ble_eq_true rfl) ⟨(Nat.le_of_ble_eq_true rfl), (Nat.le_of_ble_eq_true rfl)⟩ rfl rfl (Nat.le_of_ble_eq_true rfl) (Nat.le_of_ble_eq_true rfl) (fun r9 J_26 hq9 => ?_)
    obtain ⟨z_26, rfl, hz_26, rfl, hb_26, -⟩ := hq9
    refine tz_cV (pc := 29) (zm1_varTerm hl n _ _ (by omega) m MV0 hm9 (by omega)) vl_X12_180 dX12_drawn_29 o_164 rfl rfl (Nat.le_of_ble_eq_true rfl) ⟨(Nat.le_of_ble_eq_true rfl), (Nat.le_of_ble_eq_true rfl)⟩ rfl rfl (Nat.le_of_ble_eq_true rfl) (Nat.le_of_ble_eq_true rfl) (fun r9 J_29 hq9 => ?_)
    obtain ⟨z_29, rfl, hz_29, m9, hp1, hp2, hp3, hp4, hp5⟩ := hq9
    exact tz_iret (pc := 32) (z := z_29) dX12_drawn_32 rfl (Nat.le_of_ble_eq_true rfl) (Nat.le_of_ble_eq_true rfl) ⟨Nat.le_refl _, Nat.le_add_right _ _⟩ ⟨_, rfl, hz_29, ⟨m9, hp1, hp2, fun k hk => (hp3 k hk).trans (by simp [zup, hk]), hp4, hp5.tr (zOf.up rfl (by first | exact zOf.rf | exact zOf.up rfl zOf.rf))⟩⟩
  · refine tz_iload_n (pc := 11) dX12_drawn_11 rfl rfl ?_
    refine tz_iconst (pc := 12) dX12_drawn_12 ?_
    refine tz_icmp_eq (pc := 13) (tgt := 23) dX12_drawn_13 (by decide) (by omega) (by decide) (fun h_13 => ?_) (fun h_13 => ?_)
    · refine tz_aload_n (pc := 23) dX12_drawn_23 rfl rfl ?_
      refine tz_aload_n (pc := 24) dX12_drawn_24 rfl rfl ?_
      refine tz_iconst (pc := 25) dX12_drawn_25 ?_
      refine tz_cV (pc := 26) (zm_drawOf hl n _ _ (by decide) (by decide)) vl_X12_427 dX12_drawn_26 o_164 rfl rfl (Nat.le_of_ble_eq_true rfl) ⟨(Nat.le_of_ble_eq_true rfl), (Nat.le_of_ble_eq_true rfl)⟩ rfl rfl (Nat.le_of_ble_eq_true rfl) (Nat.le_of_ble_eq_true rfl) (fun r9 J_26 hq9 => ?_)
      obtain ⟨z_26, rfl, hz_26, rfl, hb_26, -⟩ := hq9
      refine tz_cV (pc := 29) (zm1_varTerm hl n _ _ (by omega) m MV0 hm9 (by omega)) vl_X12_180 dX12_drawn_29 o_164 rfl rfl (Nat.le_of_ble_eq_true rfl) ⟨(Nat.le_of_ble_eq_true rfl), (Nat.le_of_ble_eq_true rfl)⟩ rfl rfl (Nat.le_of_ble_eq_true rfl) (Nat.le_of_ble_eq_true rfl) (fun r9 J_29 hq9 => ?_)
      obtain ⟨z_29, rfl, hz_29, m9, hp1, hp2, hp3, hp4, hp5⟩ := hq9
      exact tz_iret (pc := 32) (z := z_29) dX12_drawn_32 rfl (Nat.le_of_ble_eq_true rfl) (Nat.le_of_ble_eq_true rfl) ⟨Nat.le_refl _, Nat.le_add_right _ _⟩ ⟨_, rfl, hz_29, ⟨m9, hp1, hp2, fun k hk => (hp3 k hk).trans (by simp [zup, hk]), hp4, hp5.tr (zOf.up rfl (by first | exact zOf.rf | exact zOf.up rfl zOf.rf))⟩⟩
    · refine tz_aload_n (pc := 16) dX12_drawn_16 rfl rfl ?_
      refine tz_fI (pc := 17) (kz := 9) (v := 0) dX12_drawn_17 fl_X12_347 i_164_9 rfl hsy (fun _ => ?_)
      refine tz_if_neF (pc := 20) (tgt := 33) (by decide) dX12_drawn_20 (by decide) (by decide) ?_
      refine tz_aload_n (pc := 23) dX12_drawn_23 rfl rfl ?_
      refine tz_aload_n (pc := 24) dX12_drawn_24 rfl rfl ?_
      refine tz_iconst (pc := 25) dX12_drawn_25 ?_
      refine tz_cV (pc := 26) (zm_drawOf hl n _ _ (by decide) (by decide)) vl_X12_427 dX12_drawn_26 o_164 rfl rfl (Nat.le_of_ble_eq_true rfl) ⟨(Nat.le_of_ble_eq_true rfl), (Nat.le_of_ble_eq_true rfl)⟩ rfl rfl (Nat.le_of_ble_eq_true rfl) (Nat.le_of_ble_eq_true rfl) (fun r9 J_26 hq9 => ?_)
      obtain ⟨z_26, rfl, hz_26, rfl, hb_26, -⟩ := hq9
      refine tz_cV (pc := 29) (zm1_varTerm hl n _ _ (by omega) m MV0 hm9 (by omega)) vl_X12_180 dX12_drawn_29 o_164 rfl rfl (Nat.le_of_ble_eq_true rfl) ⟨(Nat.le_of_ble_eq_true rfl), (Nat.le_of_ble_eq_true rfl)⟩ rfl rfl (Nat.le_of_ble_eq_true rfl) (Nat.le_of_ble_eq_true rfl) (fun r9 J_29 hq9 => ?_)
      obtain ⟨z_29, rfl, hz_29, m9, hp1, hp2, hp3, hp4, hp5⟩ := hq9
      exact tz_iret (pc := 32) (z := z_29) dX12_drawn_32 rfl (Nat.le_of_ble_eq_true rfl) (Nat.le_of_ble_eq_true rfl) ⟨Nat.le_refl _, Nat.le_add_right _ _⟩ ⟨_, rfl, hz_29, ⟨m9, hp1, hp2, fun k hk => (hp3 k hk).trans (by simp [zup, hk]), hp4, hp5.tr (zOf.up rfl (by first | exact zOf.rf | exact zOf.up rfl zOf.rf))⟩⟩

set_option maxHeartbeats 4000000 in
set_option maxRecDepth 100000 in
theorem zm_isStop {l : Launch} {G : tb_G} (hl : l.stackTraces = false) (n : Nat) (J : zJ)     : tz_Ok l G M_X12_isStopped 0 0 0 [.ref 164] n J (zqi (fun z J' => J = J' ∧ (if ¬ J 164 21 = 0 ∨ 100 < J 164 34 then 1 else 0) = z)) zN := by
  refine tz_Ok.of hl (by decide +kernel) rfl (tb_c1 rfl) (Nat.le_of_ble_eq_true rfl) ?_
  show tz_At l G M_X12_isStopped (tb_rm 0 0 0) none (tb_ZM G 0 0 (zQ n 0 (zqi (fun z J' => J = J' ∧ (if ¬ J 164 21 = 0 ∨ 100 < J 164 34 then 1 else 0) = z))) (zX n 0 zN)) 0 0 n J 0 [some (.ref 164)] []
  refine tz_aload_n (pc := 0) dX12_isStopped_0 rfl rfl ?_
  refine tz_fI (pc := 1) (kz := 21) (v := (J 164 21)) dX12_isStopped_1 fl_X12_92 i_164_21 rfl rfl (fun r_1 => ?_)
  refine tz_if_ne (pc := 4) (tgt := 16) dX12_isStopped_4 (by decide) (by omega) (fun h_4 => ?_) (fun h_4 => ?_)
  · refine tz_iconst (pc := 16) dX12_isStopped_16 ?_
    refine tz_goto (pc := 17) (tgt := 21) dX12_isStopped_17 (by decide) ?_
    exact tz_zret (pc := 21) (z := 1) dX12_isStopped_21 rfl (Or.inr rfl) (Nat.le_of_ble_eq_true rfl) (Nat.le_of_ble_eq_true rfl) ⟨Nat.le_refl _, Nat.le_add_right _ _⟩ ⟨_, rfl, (by decide), ⟨rfl, by split <;> omega⟩⟩
  · refine tz_aload_n (pc := 7) dX12_isStopped_7 rfl rfl ?_
    refine tz_fI (pc := 8) (kz := 34) (v := (J 164 34)) dX12_isStopped_8 fl_X12_208 i_164_34 rfl rfl (fun r_8 => ?_)
    refine tz_bipush (pc := 11) dX12_isStopped_11 (by decide) ?_
    refine tz_icmp_le (pc := 13) (tgt := 20) dX12_isStopped_13 (by decide) (by omega) (by decide) (fun h_13 => ?_) (fun h_13 => ?_)
    · refine tz_iconst (pc := 20) dX12_isStopped_20 ?_
      exact tz_zret (pc := 21) (z := 0) dX12_isStopped_21 rfl (Or.inl rfl) (Nat.le_of_ble_eq_true rfl) (Nat.le_of_ble_eq_true rfl) ⟨Nat.le_refl _, Nat.le_add_right _ _⟩ ⟨_, rfl, (by decide), ⟨rfl, by split <;> omega⟩⟩
    · refine tz_iconst (pc := 16) dX12_isStopped_16 ?_
      refine tz_goto (pc := 17) (tgt := 21) dX12_isStopped_17 (by decide) ?_
      exact tz_zret (pc := 21) (z := 1) dX12_isStopped_21 rfl (Or.inr rfl) (Nat.le_of_ble_eq_true rfl) (Nat.le_of_ble_eq_true rfl) ⟨Nat.le_refl _, Nat.le_add_right _ _⟩ ⟨_, rfl, (by decide), ⟨rfl, by split <;> omega⟩⟩

set_option maxHeartbeats 4000000 in
set_option maxRecDepth 100000 in
theorem zm1_normalV {l : Launch} {G : tb_G} (hl : l.stackTraces = false) (n : Nat) (J : zJ) (t : Int) (hr_t : -2147483648 ≤ t ∧ t < 2147483648)  (h0 : 0 ≤ J 164 15 + t ∧ J 164 15 + t < 1200) (hv : J 166 (J 164 15 + t) < 0) : tz_Ok l G M_X12_normalOf 2 0 0 [.ref 164, zi t] n J (zqi (fun z J' => J = J' ∧ t = z)) zN := by
  refine tz_Ok.of hl (by decide +kernel) rfl (tb_c1 rfl) (Nat.le_of_ble_eq_true rfl) ?_
  show tz_At l G M_X12_normalOf (tb_rm 2 0 0) none (tb_ZM G 0 0 (zQ n 0 (zqi (fun z J' => J = J' ∧ t = z))) (zX n 0 zN)) 0 0 n J 0 [some (.ref 164), some (zi t), none, none, none, none, none, none] []
  refine tz_aload_n (pc := 0) dX12_normalOf_0 rfl rfl ?_
  refine tz_cV (pc := 1) (zm_isStop hl n _) vl_X12_211 dX12_normalOf_1 o_164 rfl rfl (Nat.le_of_ble_eq_true rfl) ⟨(Nat.le_of_ble_eq_true rfl), (Nat.le_of_ble_eq_true rfl)⟩ rfl rfl (Nat.le_of_ble_eq_true rfl) (Nat.le_of_ble_eq_true rfl) (fun r9 J_1 hq9 => ?_)
  obtain ⟨z_1, rfl, hz_1, rfl, rfl⟩ := hq9
  refine tz_if_ne (pc := 4) (tgt := 15) dX12_normalOf_4 (by decide) (by omega) (fun h_4 => ?_) (fun h_4 => ?_)
  · refine tz_iload_n (pc := 15) dX12_normalOf_15 rfl rfl ?_
    exact tz_iret (pc := 16) (z := t) dX12_normalOf_16 rfl (Nat.le_of_ble_eq_true rfl) (Nat.le_of_ble_eq_true rfl) ⟨Nat.le_refl _, Nat.le_add_right _ _⟩ ⟨_, rfl, (by omega), ⟨rfl, rfl⟩⟩
  · refine tz_aload_n (pc := 7) dX12_normalOf_7 rfl rfl ?_
    refine tz_iload_n (pc := 8) dX12_normalOf_8 rfl rfl ?_
    refine tz_cV (pc := 9) (zm_isVar hl n _ _ hr_t h0) vl_X12_78 dX12_normalOf_9 o_164 rfl rfl (Nat.le_of_ble_eq_true rfl) ⟨(Nat.le_of_ble_eq_true rfl), (Nat.le_of_ble_eq_true rfl)⟩ rfl rfl (Nat.le_of_ble_eq_true rfl) (Nat.le_of_ble_eq_true rfl) (fun r9 J_9 hq9 => ?_)
    obtain ⟨z_9, rfl, hz_9, rfl, hv_9⟩ := hq9
    obtain rfl : 1 = z_9 := by rw [← hv_9, if_pos hv]
    refine tz_if_eqF (pc := 12) (tgt := 17) (by decide) dX12_normalOf_12 (by decide) (by decide) ?_
    refine tz_iload_n (pc := 15) dX12_normalOf_15 rfl rfl ?_
    exact tz_iret (pc := 16) (z := t) dX12_normalOf_16 rfl (Nat.le_of_ble_eq_true rfl) (Nat.le_of_ble_eq_true rfl) ⟨Nat.le_refl _, Nat.le_add_right _ _⟩ ⟨_, rfl, (by omega), ⟨rfl, rfl⟩⟩

set_option maxHeartbeats 4000000 in
set_option maxRecDepth 100000 in
theorem zm1_wHeadV {l : Launch} {G : tb_G} (hl : l.stackTraces = false) (n : Nat) (J : zJ) (t : Int) (hr_t : -2147483648 ≤ t ∧ t < 2147483648)  (h0 : 0 ≤ J 164 15 + t ∧ J 164 15 + t < 1200) (hv : J 166 (J 164 15 + t) < 0) : tz_Ok l G M_X12_weightOfHead 2 0 0 [.ref 164, zi t] n J (zqi (fun z J' => J = J' ∧ 1 = z)) zN := by
  refine tz_Ok.of hl (by decide +kernel) rfl (tb_c1 rfl) (Nat.le_of_ble_eq_true rfl) ?_
  show tz_At l G M_X12_weightOfHead (tb_rm 2 0 0) none (tb_ZM G 0 0 (zQ n 0 (zqi (fun z J' => J = J' ∧ 1 = z))) (zX n 0 zN)) 0 0 n J 0 [some (.ref 164), some (zi t)] []
  refine tz_aload_n (pc := 0) dX12_weightOfHead_0 rfl rfl ?_
  refine tz_iload_n (pc := 1) dX12_weightOfHead_1 rfl rfl ?_
  refine tz_cV (pc := 2) (zm_isVar hl n _ _ hr_t h0) vl_X12_78 dX12_weightOfHead_2 o_164 rfl rfl (Nat.le_of_ble_eq_true rfl) ⟨(Nat.le_of_ble_eq_true rfl), (Nat.le_of_ble_eq_true rfl)⟩ rfl rfl (Nat.le_of_ble_eq_true rfl) (Nat.le_of_ble_eq_true rfl) (fun r9 J_2 hq9 => ?_)
  obtain ⟨z_2, rfl, hz_2, rfl, hv_2⟩ := hq9
  obtain rfl : 1 = z_2 := by rw [← hv_2, if_pos hv]
  refine tz_if_eqF (pc := 5) (tgt := 12) (by decide) dX12_weightOfHead_5 (by decide) (by decide) ?_
  refine tz_iconst (pc := 8) dX12_weightOfHead_8 ?_
  refine tz_goto (pc := 9) (tgt := 27) dX12_weightOfHead_9 (by decide) ?_
  exact tz_iret (pc := 27) (z := 1) dX12_weightOfHead_27 rfl (Nat.le_of_ble_eq_true rfl) (Nat.le_of_ble_eq_true rfl) ⟨Nat.le_refl _, Nat.le_add_right _ _⟩ ⟨_, rfl, (by decide), ⟨rfl, rfl⟩⟩

set_option maxHeartbeats 4000000 in
set_option maxRecDepth 100000 in
theorem zm1_arityV {l : Launch} {G : tb_G} (hl : l.stackTraces = false) (n : Nat) (J : zJ) (t : Int) (hr_t : -2147483648 ≤ t ∧ t < 2147483648)  (h0 : 0 ≤ J 164 15 + t ∧ J 164 15 + t < 1200) (hv : J 166 (J 164 15 + t) < 0) : tz_Ok l G M_X12_arityOf 2 0 0 [.ref 164, zi t] n J (zqi (fun z J' => J = J' ∧ 0 = z)) zN := by
  refine tz_Ok.of hl (by decide +kernel) rfl (tb_c1 rfl) (Nat.le_of_ble_eq_true rfl) ?_
  show tz_At l G M_X12_arityOf (tb_rm 2 0 0) none (tb_ZM G 0 0 (zQ n 0 (zqi (fun z J' => J = J' ∧ 0 = z))) (zX n 0 zN)) 0 0 n J 0 [some (.ref 164), some (zi t)] []
  refine tz_aload_n (pc := 0) dX12_arityOf_0 rfl rfl ?_
  refine tz_iload_n (pc := 1) dX12_arityOf_1 rfl rfl ?_
  refine tz_cV (pc := 2) (zm_isVar hl n _ _ hr_t h0) vl_X12_78 dX12_arityOf_2 o_164 rfl rfl (Nat.le_of_ble_eq_true rfl) ⟨(Nat.le_of_ble_eq_true rfl), (Nat.le_of_ble_eq_true rfl)⟩ rfl rfl (Nat.le_of_ble_eq_true rfl) (Nat.le_of_ble_eq_true rfl) (fun r9 J_2 hq9 => ?_)
  obtain ⟨z_2, rfl, hz_2, rfl, hv_2⟩ := hq9
  obtain rfl : 1 = z_2 := by rw [← hv_2, if_pos hv]
  refine tz_if_eqF (pc := 5) (tgt := 12) (by decide) dX12_arityOf_5 (by decide) (by decide) ?_
  refine tz_iconst (pc := 8) dX12_arityOf_8 ?_
  refine tz_goto (pc := 9) (tgt := 27) dX12_arityOf_9 (by decide) ?_
  exact tz_iret (pc := 27) (z := 0) dX12_arityOf_27 rfl (Nat.le_of_ble_eq_true rfl) (Nat.le_of_ble_eq_true rfl) ⟨Nat.le_refl _, Nat.le_add_right _ _⟩ ⟨_, rfl, (by decide), ⟨rfl, rfl⟩⟩

set_option maxHeartbeats 4000000 in
set_option maxRecDepth 100000 in
theorem zm1_weightV {l : Launch} {G : tb_G} (hl : l.stackTraces = false) (n : Nat) (J : zJ) (t : Int) (hr_t : -2147483648 ≤ t ∧ t < 2147483648)  (h0 : 0 ≤ J 164 15 + t ∧ J 164 15 + t < 1200) (hv : J 166 (J 164 15 + t) < 0) : tz_Ok l G M_X12_weightOf 3 0 0 [.ref 164, zi t] n J (zqi (fun z J' => J = J' ∧ 1 = z)) zN := by
  refine tz_Ok.of hl (by decide +kernel) rfl (tb_c1 rfl) (Nat.le_of_ble_eq_true rfl) ?_
  show tz_At l G M_X12_weightOf (tb_rm 3 0 0) none (tb_ZM G 0 0 (zQ n 0 (zqi (fun z J' => J = J' ∧ 1 = z))) (zX n 0 zN)) 0 0 n J 0 [some (.ref 164), some (zi t), none, none] []
  refine tz_aload_n (pc := 0) dX12_weightOf_0 rfl rfl ?_
  refine tz_iload_n (pc := 1) dX12_weightOf_1 rfl rfl ?_
  refine tz_cV (pc := 2) (zm1_wHeadV hl n _ _ hr_t h0 hv) vl_X12_117 dX12_weightOf_2 o_164 rfl rfl (Nat.le_of_ble_eq_true rfl) ⟨(Nat.le_of_ble_eq_true rfl), (Nat.le_of_ble_eq_true rfl)⟩ rfl rfl (Nat.le_of_ble_eq_true rfl) (Nat.le_of_ble_eq_true rfl) (fun r9 J_2 hq9 => ?_)
  obtain ⟨z_2, rfl, hz_2, rfl, rfl⟩ := hq9
  refine tz_istore_n (pc := 5) (L2 := [_, _, _, _]) dX12_weightOf_5 rfl (by decide) rfl ?_
  refine tz_iconst (pc := 6) dX12_weightOf_6 ?_
  refine tz_istore_n (pc := 7) (L2 := [_, _, _, _]) dX12_weightOf_7 rfl (by decide) rfl ?_
  refine tz_iload_n (pc := 8) dX12_weightOf_8 rfl rfl ?_
  refine tz_aload_n (pc := 9) dX12_weightOf_9 rfl rfl ?_
  refine tz_iload_n (pc := 10) dX12_weightOf_10 rfl rfl ?_
  refine tz_cV (pc := 11) (zm1_arityV hl n _ _ hr_t h0 hv) vl_X12_111 dX12_weightOf_11 o_164 rfl rfl (Nat.le_of_ble_eq_true rfl) ⟨(Nat.le_of_ble_eq_true rfl), (Nat.le_of_ble_eq_true rfl)⟩ rfl rfl (Nat.le_of_ble_eq_true rfl) (Nat.le_of_ble_eq_true rfl) (fun r9 J_11 hq9 => ?_)
  obtain ⟨z_11, rfl, hz_11, rfl, rfl⟩ := hq9
  refine tz_icmp_geT (pc := 14) (tgt := 36) (by decide) dX12_weightOf_14 (by decide) (by decide) (by decide) ?_
  refine tz_iload_n (pc := 36) dX12_weightOf_36 rfl rfl ?_
  exact tz_iret (pc := 37) (z := 1) dX12_weightOf_37 rfl (Nat.le_of_ble_eq_true rfl) (Nat.le_of_ble_eq_true rfl) ⟨Nat.le_refl _, Nat.le_add_right _ _⟩ ⟨_, rfl, (by decide), ⟨rfl, rfl⟩⟩

def zbg (J : zJ) : zJ := zup (zup (zup (zmv J 165 0 63 63) 164 21 0) 164 33 0) 164 34 0
set_option maxHeartbeats 4000000 in
set_option maxRecDepth 100000 in
theorem zm_begins {l : Launch} {G : tb_G} (hl : l.stackTraces = false) (n : Nat) (J : zJ)     : tz_Ok l G M_X12_begins 1 0 0 [.ref 164] n J (zqv (fun J' => zbg J = J')) zN := by
  refine tz_Ok.of hl (by decide +kernel) rfl (tb_c1 rfl) (Nat.le_of_ble_eq_true rfl) ?_
  show tz_At l G M_X12_begins (tb_rm 1 0 0) none (tb_ZM G 0 0 (zQ n 0 (zqv (fun J' => zbg J = J'))) (zX n 0 zN)) 0 0 n J 0 [some (.ref 164)] []
  refine tz_aload_n (pc := 0) dX12_begins_0 rfl rfl ?_
  refine tz_iconst (pc := 1) dX12_begins_1 ?_
  refine tz_bipush (pc := 2) dX12_begins_2 (by decide) ?_
  refine tz_bipush (pc := 4) dX12_begins_4 (by decide) ?_
  refine tz_cV (pc := 6) (zm_copies hl n _ _ _ _ (by decide) (by decide) (by decide) (by decide) (by decide)) vl_X12_343 dX12_begins_6 o_164 rfl rfl (Nat.le_of_ble_eq_true rfl) ⟨(Nat.le_of_ble_eq_true rfl), (Nat.le_of_ble_eq_true rfl)⟩ rfl rfl (Nat.le_of_ble_eq_true rfl) (Nat.le_of_ble_eq_true rfl) (fun r9 J_6 hq9 => ?_)
  obtain ⟨rfl, rfl⟩ := hq9
  refine tz_aload_n (pc := 9) dX12_begins_9 rfl rfl ?_
  refine tz_iconst (pc := 10) dX12_begins_10 ?_
  refine tz_pZ (pc := 11) (kz := 21) dX12_begins_11 fl_X12_92 i_164_21 rfl rfl (Or.inl rfl) ?_
  refine tz_aload_n (pc := 14) dX12_begins_14 rfl rfl ?_
  refine tz_iconst (pc := 15) dX12_begins_15 ?_
  refine tz_pZ (pc := 16) (kz := 33) dX12_begins_16 fl_X12_195 i_164_33 rfl rfl (Or.inl rfl) ?_
  refine tz_aload_n (pc := 19) dX12_begins_19 rfl rfl ?_
  refine tz_iconst (pc := 20) dX12_begins_20 ?_
  refine tz_pI (pc := 21) (kz := 34) dX12_begins_21 fl_X12_208 i_164_34 rfl rfl (by decide) ?_
  exact tz_vret (pc := 24) dX12_begins_24 rfl (Nat.le_of_ble_eq_true rfl) (Nat.le_of_ble_eq_true rfl) ⟨Nat.le_refl _, Nat.le_add_right _ _⟩ ⟨rfl, rfl⟩

set_option maxHeartbeats 4000000 in
set_option maxRecDepth 100000 in
theorem zm_refuses {l : Launch} {G : tb_G} (hl : l.stackTraces = false) (n : Nat) (J : zJ) (w : Int) (a : Int) (hr_w : -2147483648 ≤ w ∧ w < 2147483648) (hr_a : -2147483648 ≤ a ∧ a < 2147483648)  (h0 : 0 ≤ w ∧ w < 4) : tz_Ok l G M_X12_refuses 0 0 0 [.ref 164, zi w, zi a] n J (zqi (fun z J' => a = z ∧ zOf (zbut [172]) J' J)) zN := by
  refine tz_Ok.of hl (by decide +kernel) rfl (tb_c1 rfl) (Nat.le_of_ble_eq_true rfl) ?_
  show tz_At l G M_X12_refuses (tb_rm 0 0 0) none (tb_ZM G 0 0 (zQ n 0 (zqi (fun z J' => a = z ∧ zOf (zbut [172]) J' J))) (zX n 0 zN)) 0 0 n J 0 [some (.ref 164), some (zi w), some (zi a)] []
  refine tz_aload_n (pc := 0) dX12_refuses_0 rfl rfl ?_
  refine tz_fR (pc := 1) dX12_refuses_1 fl_X12_31 r_164_7 ?_
  refine tz_iload_n (pc := 4) dX12_refuses_4 rfl rfl ?_
  refine tz_dup2 (pc := 5) dX12_refuses_5 rfl rfl ?_
  refine tz_aL (pc := 6) (z := w) (v := (J 172 w)) dX12_refuses_6 a_172 rfl (by omega) rfl (fun r_6 => ?_)
  refine tz_iconst (pc := 7) dX12_refuses_7 ?_
  refine tz_iadd (pc := 8) (v := (J 172 w) + 1) dX12_refuses_8 rfl ?_
  refine tz_tw ?_
  have rw_9 := zw_rg ((J 172 w) + 1)
  refine tz_aS (pc := 9) (z := w) dX12_refuses_9 a_172 rfl (by omega) (zw_rg _) ?_
  refine tz_iload_n (pc := 10) dX12_refuses_10 rfl rfl ?_
  exact tz_iret (pc := 11) (z := a) dX12_refuses_11 rfl (Nat.le_of_ble_eq_true rfl) (Nat.le_of_ble_eq_true rfl) ⟨Nat.le_refl _, Nat.le_add_right _ _⟩ ⟨_, rfl, (by omega), ⟨rfl, zOf.up rfl zOf.rf⟩⟩

set_option maxHeartbeats 4000000 in
set_option maxRecDepth 100000 in
theorem zm_keptAt0 {l : Launch} {G : tb_G} (hl : l.stackTraces = false) (n : Nat) (J : zJ)     : tz_Ok l G M_X12_keptAt 0 0 0 [zi 0, zi 0] n J (zqi (fun z J' => J = J' ∧ 189 = z)) zN := by
  refine tz_Ok.of hl (by decide +kernel) rfl (tb_c1 rfl) (Nat.le_of_ble_eq_true rfl) ?_
  show tz_At l G M_X12_keptAt (tb_rm 0 0 0) none (tb_ZM G 0 0 (zQ n 0 (zqi (fun z J' => J = J' ∧ 189 = z))) (zX n 0 zN)) 0 0 n J 0 [some (zi 0), some (zi 0)] []
  refine tz_sipush (pc := 0) dX12_keptAt_0 (by decide) ?_
  refine tz_bipush (pc := 3) dX12_keptAt_3 (by decide) ?_
  refine tz_iload_n (pc := 5) dX12_keptAt_5 rfl rfl ?_
  refine tz_iload_n (pc := 6) dX12_keptAt_6 rfl rfl ?_
  refine tz_iadd (pc := 7) (v := 0) dX12_keptAt_7 (by decide) ?_
  refine tz_bipush (pc := 8) dX12_keptAt_8 (by decide) ?_
  refine tz_irem (pc := 10) (a := 0) (b := 40) (v := 0) dX12_keptAt_10 (by omega) (by omega) (by decide) ?_
  refine tz_imul (pc := 11) (v := 0) dX12_keptAt_11 (by decide) ?_
  refine tz_iadd (pc := 12) (v := 189) dX12_keptAt_12 (by decide) ?_
  exact tz_iret (pc := 13) (z := 189) dX12_keptAt_13 rfl (Nat.le_of_ble_eq_true rfl) (Nat.le_of_ble_eq_true rfl) ⟨Nat.le_refl _, Nat.le_add_right _ _⟩ ⟨_, rfl, (by decide), ⟨rfl, by decide⟩⟩

set_option maxHeartbeats 4000000 in
set_option maxRecDepth 100000 in
theorem zm1_keeps {l : Launch} {G : tb_G} (hl : l.stackTraces = false) (n : Nat) (J : zJ) (a : Int) (hr_a : -2147483648 ≤ a ∧ a < 2147483648)  (hfu : J 164 21 = 0) (hac : J 164 10 = 0) (hfi : J 164 11 = 0) : tz_Ok l G M_X12_keeps 1 0 0 [.ref 164, zi a] n J (zqi (fun z J' => a = z ∧ J' 164 8 = J 164 8 ∧ zOf (zbut [164, 165]) J' J)) zN := by
  refine tz_Ok.of hl (by decide +kernel) rfl (tb_c1 rfl) (Nat.le_of_ble_eq_true rfl) ?_
  show tz_At l G M_X12_keeps (tb_rm 1 0 0) none (tb_ZM G 0 0 (zQ n 0 (zqi (fun z J' => a = z ∧ J' 164 8 = J 164 8 ∧ zOf (zbut [164, 165]) J' J))) (zX n 0 zN)) 0 0 n J 0 [some (.ref 164), some (zi a)] []
  refine tz_aload_n (pc := 0) dX12_keeps_0 rfl rfl ?_
  refine tz_fI (pc := 1) (kz := 21) (v := 0) dX12_keeps_1 fl_X12_92 i_164_21 rfl hfu (fun _ => ?_)
  refine tz_if_eqT (pc := 4) (tgt := 15) (by decide) dX12_keeps_4 (by decide) (by decide) ?_
  refine tz_aload_n (pc := 15) dX12_keeps_15 rfl rfl ?_
  refine tz_fI (pc := 16) (kz := 10) (v := 0) dX12_keeps_16 fl_X12_356 i_164_10 rfl hac (fun _ => ?_)
  refine tz_bipush (pc := 19) dX12_keeps_19 (by decide) ?_
  refine tz_icmp_neT (pc := 21) (tgt := 47) (by decide) dX12_keeps_21 (by decide) (by decide) (by decide) ?_
  refine tz_aload_n (pc := 47) dX12_keeps_47 rfl rfl ?_
  refine tz_bipush (pc := 48) dX12_keeps_48 (by decide) ?_
  refine tz_aload_n (pc := 50) dX12_keeps_50 rfl rfl ?_
  refine tz_fI (pc := 51) (kz := 11) (v := 0) dX12_keeps_51 fl_X12_353 i_164_11 rfl hfi (fun _ => ?_)
  refine tz_aload_n (pc := 54) dX12_keeps_54 rfl rfl ?_
  refine tz_fI (pc := 55) (kz := 10) (v := 0) dX12_keeps_55 fl_X12_356 i_164_10 rfl hac (fun _ => ?_)
  refine tz_cS (pc := 58) (zm_keptAt0 hl n _) sl_X12_397 dX12_keeps_58 rfl rfl (Nat.le_of_ble_eq_true rfl) ⟨(Nat.le_of_ble_eq_true rfl), (Nat.le_of_ble_eq_true rfl)⟩ rfl rfl (Nat.le_of_ble_eq_true rfl) (Nat.le_of_ble_eq_true rfl) (fun r9 J_58 hq9 => ?_)
  obtain ⟨z_58, rfl, hz_58, rfl, rfl⟩ := hq9
  refine tz_bipush (pc := 61) dX12_keeps_61 (by decide) ?_
  refine tz_cV (pc := 63) (zm_copies hl n _ _ _ _ (by decide) (by decide) (by decide) (by decide) (by decide)) vl_X12_343 dX12_keeps_63 o_164 rfl rfl (Nat.le_of_ble_eq_true rfl) ⟨(Nat.le_of_ble_eq_true rfl), (Nat.le_of_ble_eq_true rfl)⟩ rfl rfl (Nat.le_of_ble_eq_true rfl) (Nat.le_of_ble_eq_true rfl) (fun r9 J_63 hq9 => ?_)
  obtain ⟨rfl, rfl⟩ := hq9
  refine tz_aload_n (pc := 66) dX12_keeps_66 rfl rfl ?_
  refine tz_dup (pc := 67) dX12_keeps_67 rfl ?_
  refine tz_fI (pc := 68) (kz := 10) (v := 0) dX12_keeps_68 fl_X12_356 i_164_10 rfl hac (fun _ => ?_)
  refine tz_iconst (pc := 71) dX12_keeps_71 ?_
  refine tz_iadd (pc := 72) (v := 1) dX12_keeps_72 (by decide) ?_
  refine tz_pI (pc := 73) (kz := 10) dX12_keeps_73 fl_X12_356 i_164_10 rfl rfl (by decide) ?_
  refine tz_iload_n (pc := 76) dX12_keeps_76 rfl rfl ?_
  exact tz_iret (pc := 77) (z := a) dX12_keeps_77 rfl (Nat.le_of_ble_eq_true rfl) (Nat.le_of_ble_eq_true rfl) ⟨Nat.le_refl _, Nat.le_add_right _ _⟩ ⟨_, rfl, (by omega), ⟨rfl, rfl, zOf.up rfl (zOf.mv rfl zOf.rf)⟩⟩

set_option maxHeartbeats 4000000 in
set_option maxRecDepth 100000 in
theorem zm1_byteAt {l : Launch} {G : tb_G} (hl : l.stackTraces = false) (n : Nat) (J : zJ)    (hsz : J 164 37 = 0) : tz_Ok l G M_X12_byteAt 0 0 0 [.ref 164, zi 0] n J (zqi (fun z J' => J = J' ∧ 0 = z)) zN := by
  refine tz_Ok.of hl (by decide +kernel) rfl (tb_c1 rfl) (Nat.le_of_ble_eq_true rfl) ?_
  show tz_At l G M_X12_byteAt (tb_rm 0 0 0) none (tb_ZM G 0 0 (zQ n 0 (zqi (fun z J' => J = J' ∧ 0 = z))) (zX n 0 zN)) 0 0 n J 0 [some (.ref 164), some (zi 0)] []
  refine tz_iload_n (pc := 0) dX12_byteAt_0 rfl rfl ?_
  refine tz_aload_n (pc := 1) dX12_byteAt_1 rfl rfl ?_
  refine tz_fI (pc := 2) (kz := 37) (v := 0) dX12_byteAt_2 fl_X12_233 i_164_37 rfl hsz (fun _ => ?_)
  refine tz_icmp_geT (pc := 5) (tgt := 17) (by decide) dX12_byteAt_5 (by decide) (by decide) (by decide) ?_
  refine tz_iconst (pc := 17) dX12_byteAt_17 ?_
  exact tz_iret (pc := 18) (z := 0) dX12_byteAt_18 rfl (Nat.le_of_ble_eq_true rfl) (Nat.le_of_ble_eq_true rfl) ⟨Nat.le_refl _, Nat.le_add_right _ _⟩ ⟨_, rfl, (by decide), ⟨rfl, rfl⟩⟩

set_option maxHeartbeats 4000000 in
set_option maxRecDepth 100000 in
theorem zm1_go {l : Launch} {G : tb_G} (hl : l.stackTraces = false) (n : Nat) (J : zJ)    (hat : J 164 35 = 0) (hsz : J 164 37 = 0) : tz_Ok l G M_X12_go 1 0 0 [.ref 164] n J (zqv (fun J' => zup (zup (zup (zup (zup (zup J 164 36 0) 164 40 (-1)) 164 41 0) 164 39 0) 164 42 0) 164 38 0 = J')) zN := by
  refine tz_Ok.of hl (by decide +kernel) rfl (tb_c1 rfl) (Nat.le_of_ble_eq_true rfl) ?_
  show tz_At l G M_X12_go (tb_rm 1 0 0) none (tb_ZM G 0 0 (zQ n 0 (zqv (fun J' => zup (zup (zup (zup (zup (zup J 164 36 0) 164 40 (-1)) 164 41 0) 164 39 0) 164 42 0) 164 38 0 = J'))) (zX n 0 zN)) 0 0 n J 0 [some (.ref 164), none] []
  refine tz_aload_n (pc := 0) dX12_go_0 rfl rfl ?_
  refine tz_fI (pc := 1) (kz := 35) (v := 0) dX12_go_1 fl_X12_243 i_164_35 rfl hat (fun _ => ?_)
  refine tz_aload_n (pc := 4) dX12_go_4 rfl rfl ?_
  refine tz_fI (pc := 5) (kz := 37) (v := 0) dX12_go_5 fl_X12_233 i_164_37 rfl hsz (fun _ => ?_)
  refine tz_icmp_geT (pc := 8) (tgt := 50) (by decide) dX12_go_8 (by decide) (by decide) (by decide) ?_
  refine tz_aload_n (pc := 50) dX12_go_50 rfl rfl ?_
  refine tz_aload_n (pc := 51) dX12_go_51 rfl rfl ?_
  refine tz_fI (pc := 52) (kz := 35) (v := 0) dX12_go_52 fl_X12_243 i_164_35 rfl hat (fun _ => ?_)
  refine tz_pI (pc := 55) (kz := 36) dX12_go_55 fl_X12_246 i_164_36 rfl rfl (by decide) ?_
  refine tz_aload_n (pc := 58) dX12_go_58 rfl rfl ?_
  refine tz_aload_n (pc := 59) dX12_go_59 rfl rfl ?_
  refine tz_fI (pc := 60) (kz := 35) (v := 0) dX12_go_60 fl_X12_243 i_164_35 rfl hat (fun _ => ?_)
  refine tz_cV (pc := 63) (zm1_byteAt hl n _ hsz) vl_X12_240 dX12_go_63 o_164 rfl rfl (Nat.le_of_ble_eq_true rfl) ⟨(Nat.le_of_ble_eq_true rfl), (Nat.le_of_ble_eq_true rfl)⟩ rfl rfl (Nat.le_of_ble_eq_true rfl) (Nat.le_of_ble_eq_true rfl) (fun r9 J_63 hq9 => ?_)
  obtain ⟨z_63, rfl, hz_63, rfl, rfl⟩ := hq9
  refine tz_istore_n (pc := 66) (L2 := [_, _]) dX12_go_66 rfl (by decide) rfl ?_
  refine tz_aload_n (pc := 67) dX12_go_67 rfl rfl ?_
  refine tz_iconst (pc := 68) dX12_go_68 ?_
  refine tz_pI (pc := 69) (kz := 40) dX12_go_69 fl_X12_249 i_164_40 rfl rfl (by decide) ?_
  refine tz_aload_n (pc := 72) dX12_go_72 rfl rfl ?_
  refine tz_iconst (pc := 73) dX12_go_73 ?_
  refine tz_pI (pc := 74) (kz := 41) dX12_go_74 fl_X12_252 i_164_41 rfl rfl (by decide) ?_
  refine tz_aload_n (pc := 77) dX12_go_77 rfl rfl ?_
  refine tz_iconst (pc := 78) dX12_go_78 ?_
  refine tz_pI (pc := 79) (kz := 39) dX12_go_79 fl_X12_255 i_164_39 rfl rfl (by decide) ?_
  refine tz_aload_n (pc := 82) dX12_go_82 rfl rfl ?_
  refine tz_iconst (pc := 83) dX12_go_83 ?_
  refine tz_pI (pc := 84) (kz := 42) dX12_go_84 fl_X12_258 i_164_42 rfl rfl (by decide) ?_
  refine tz_aload_n (pc := 87) dX12_go_87 rfl rfl ?_
  refine tz_fI (pc := 88) (kz := 35) (v := 0) dX12_go_88 fl_X12_243 i_164_35 rfl hat (fun _ => ?_)
  refine tz_aload_n (pc := 91) dX12_go_91 rfl rfl ?_
  refine tz_fI (pc := 92) (kz := 37) (v := 0) dX12_go_92 fl_X12_233 i_164_37 rfl hsz (fun _ => ?_)
  refine tz_icmp_ltF (pc := 95) (tgt := 106) (by decide) dX12_go_95 (by decide) (by decide) (by decide) ?_
  refine tz_aload_n (pc := 98) dX12_go_98 rfl rfl ?_
  refine tz_iconst (pc := 99) dX12_go_99 ?_
  refine tz_pI (pc := 100) (kz := 38) dX12_go_100 fl_X12_261 i_164_38 rfl rfl (by decide) ?_
  refine tz_goto (pc := 103) (tgt := 312) dX12_go_103 (by decide) ?_
  exact tz_vret (pc := 312) dX12_go_312 rfl (Nat.le_of_ble_eq_true rfl) (Nat.le_of_ble_eq_true rfl) ⟨Nat.le_refl _, Nat.le_add_right _ _⟩ ⟨rfl, rfl⟩

set_option maxHeartbeats 4000000 in
set_option maxRecDepth 100000 in
theorem zm1_readsAll {l : Launch} {G : tb_G} (hl : l.stackTraces = false) (n : Nat) (J : zJ) (b : Int) (hr_b : -2147483648 ≤ b ∧ b < 2147483648)  (hb0 : b = 0) : tz_Ok l G M_X12_readsAll 2 0 0 [.ref 164, zi b] n J (zqv (fun J' => (J' 164 43 = 0 ∧ J' 164 8 = J 164 8) ∧ zOf (zbut [164, 165]) J' J)) zN := by
  refine tz_Ok.of hl (by decide +kernel) rfl (tb_c1 rfl) (Nat.le_of_ble_eq_true rfl) ?_
  show tz_At l G M_X12_readsAll (tb_rm 2 0 0) none (tb_ZM G 0 0 (zQ n 0 (zqv (fun J' => (J' 164 43 = 0 ∧ J' 164 8 = J 164 8) ∧ zOf (zbut [164, 165]) J' J))) (zX n 0 zN)) 0 0 n J 0 [some (.ref 164), some (zi b), none] []
  refine tz_aload_n (pc := 0) dX12_readsAll_0 rfl rfl ?_
  refine tz_iload_n (pc := 1) dX12_readsAll_1 rfl rfl ?_
  refine tz_pI (pc := 2) (kz := 37) dX12_readsAll_2 fl_X12_233 i_164_37 rfl rfl (by omega) ?_
  refine tz_aload_n (pc := 5) dX12_readsAll_5 rfl rfl ?_
  refine tz_iconst (pc := 6) dX12_readsAll_6 ?_
  refine tz_pI (pc := 7) (kz := 35) dX12_readsAll_7 fl_X12_243 i_164_35 rfl rfl (by decide) ?_
  refine tz_aload_n (pc := 10) dX12_readsAll_10 rfl rfl ?_
  refine tz_iconst (pc := 11) dX12_readsAll_11 ?_
  refine tz_pI (pc := 12) (kz := 43) dX12_readsAll_12 fl_X12_273 i_164_43 rfl rfl (by decide) ?_
  refine tz_aload_n (pc := 15) dX12_readsAll_15 rfl rfl ?_
  refine tz_iconst (pc := 16) dX12_readsAll_16 ?_
  refine tz_pI (pc := 17) (kz := 20) dX12_readsAll_17 fl_X12_37 i_164_20 rfl rfl (by decide) ?_
  refine tz_aload_n (pc := 20) dX12_readsAll_20 rfl rfl ?_
  refine tz_aload_n (pc := 21) dX12_readsAll_21 rfl rfl ?_
  refine tz_iconst (pc := 22) dX12_readsAll_22 ?_
  refine tz_dup_x1 (pc := 23) dX12_readsAll_23 rfl rfl ?_
  refine tz_pI (pc := 24) (kz := 45) dX12_readsAll_24 fl_X12_313 i_164_45 rfl rfl (by decide) ?_
  refine tz_pI (pc := 27) (kz := 44) dX12_readsAll_27 fl_X12_287 i_164_44 rfl rfl (by decide) ?_
  refine tz_aload_n (pc := 30) dX12_readsAll_30 rfl rfl ?_
  refine tz_iconst (pc := 31) dX12_readsAll_31 ?_
  refine tz_pZ (pc := 32) (kz := 21) dX12_readsAll_32 fl_X12_92 i_164_21 rfl rfl (Or.inl rfl) ?_
  refine tz_iconst (pc := 35) dX12_readsAll_35 ?_
  refine tz_istore_n (pc := 36) (L2 := [_, _, _]) dX12_readsAll_36 rfl (by decide) rfl ?_
  have loop37 : ∀ (f9 : Nat) (i : Int) (J1 : zJ), ((63 - i).toNat) < f9 → (0 ≤ i ∧ i ≤ 63) → (zOf (zbut [165]) J1 (zup (zup (zup (zup (zup (zup (zup J 164 37 b) 164 35 0) 164 43 0) 164 20 (-1)) 164 45 0) 164 44 0) 164 21 0)) → tz_At l G M_X12_readsAll (tb_rm 2 0 0) none (tb_ZM G 0 0 (zQ n 0 (zqv (fun J' => (J' 164 43 = 0 ∧ J' 164 8 = J 164 8) ∧ zOf (zbut [164, 165]) J' J))) (zX n 0 zN)) 0 0 n J1 37 [some (.ref 164), some (zi b), some (zi i)] [] := by
    intro f9
    induction f9 with
    | zero => intro i J1 hm9; exact absurd hm9 (Nat.not_lt_zero _)
    | succ f9 ih37 =>
      intro i J1 hm37 hi fr
      refine tz_iload_n (pc := 37) dX12_readsAll_37 rfl rfl ?_
      refine tz_bipush (pc := 38) dX12_readsAll_38 (by decide) ?_
      refine tz_icmp_ge (pc := 40) (tgt := 59) dX12_readsAll_40 (by decide) (by omega) (by decide) (fun h_40 => ?_) (fun h_40 => ?_)
      · refine tz_aload_n (pc := 59) dX12_readsAll_59 rfl rfl ?_
        refine tz_fR (pc := 60) dX12_readsAll_60 fl_X12_9 r_164_0 ?_
        refine tz_sipush (pc := 63) dX12_readsAll_63 (by decide) ?_
        refine tz_iconst (pc := 66) dX12_readsAll_66 ?_
        refine tz_aS (pc := 67) (z := 165) dX12_readsAll_67 a_165 rfl (by decide) (by decide) ?_
        refine tz_aload_n (pc := 68) dX12_readsAll_68 rfl rfl ?_
        refine tz_sipush (pc := 69) dX12_readsAll_69 (by decide) ?_
        refine tz_pI (pc := 72) (kz := 15) dX12_readsAll_72 fl_X12_71 i_164_15 rfl rfl (by decide) ?_
        refine tz_aload_n (pc := 75) dX12_readsAll_75 rfl rfl ?_
        refine tz_bipush (pc := 76) dX12_readsAll_76 (by decide) ?_
        refine tz_pI (pc := 78) (kz := 16) dX12_readsAll_78 fl_X12_85 i_164_16 rfl rfl (by decide) ?_
        refine tz_aload_n (pc := 81) dX12_readsAll_81 rfl rfl ?_
        refine tz_bipush (pc := 82) dX12_readsAll_82 (by decide) ?_
        refine tz_pI (pc := 84) (kz := 17) dX12_readsAll_84 fl_X12_82 i_164_17 rfl rfl (by decide) ?_
        refine tz_aload_n (pc := 87) dX12_readsAll_87 rfl rfl ?_
        refine tz_cV (pc := 88) (zm1_go hl n _ (Eq.trans (congrFun (fr 164 rfl) 35) rfl) (Eq.trans (Eq.trans (congrFun (fr 164 rfl) 37) rfl) hb0)) vl_X12_280 dX12_readsAll_88 o_164 rfl rfl (Nat.le_of_ble_eq_true rfl) ⟨(Nat.le_of_ble_eq_true rfl), (Nat.le_of_ble_eq_true rfl)⟩ rfl rfl (Nat.le_of_ble_eq_true rfl) (Nat.le_of_ble_eq_true rfl) (fun r9 J_88 hq9 => ?_)
        obtain ⟨rfl, rfl⟩ := hq9
        refine tz_aload_n (pc := 91) dX12_readsAll_91 rfl rfl ?_
        refine tz_fI (pc := 92) (kz := 43) (v := 0) dX12_readsAll_92 fl_X12_273 i_164_43 rfl (Eq.trans (congrFun (fr 164 rfl) 43) rfl) (fun _ => ?_)
        refine tz_if_neF (pc := 95) (tgt := 118) (by decide) dX12_readsAll_95 (by decide) (by decide) ?_
        refine tz_aload_n (pc := 98) dX12_readsAll_98 rfl rfl ?_
        refine tz_fI (pc := 99) (kz := 38) (v := 0) dX12_readsAll_99 fl_X12_261 i_164_38 rfl rfl (fun _ => ?_)
        refine tz_if_eqT (pc := 102) (tgt := 118) (by decide) dX12_readsAll_102 (by decide) (by decide) ?_
        refine tz_aload_n (pc := 118) dX12_readsAll_118 rfl rfl ?_
        refine tz_aload_n (pc := 119) dX12_readsAll_119 rfl rfl ?_
        refine tz_aload_n (pc := 120) dX12_readsAll_120 rfl rfl ?_
        refine tz_iconst (pc := 121) dX12_readsAll_121 ?_
        refine tz_dup_x1 (pc := 122) dX12_readsAll_122 rfl rfl ?_
        refine tz_pI (pc := 123) (kz := 17) dX12_readsAll_123 fl_X12_82 i_164_17 rfl rfl (by decide) ?_
        refine tz_dup_x1 (pc := 126) dX12_readsAll_126 rfl rfl ?_
        refine tz_pI (pc := 127) (kz := 16) dX12_readsAll_127 fl_X12_85 i_164_16 rfl rfl (by decide) ?_
        refine tz_pI (pc := 130) (kz := 15) dX12_readsAll_130 fl_X12_71 i_164_15 rfl rfl (by decide) ?_
        exact tz_vret (pc := 133) dX12_readsAll_133 rfl (Nat.le_of_ble_eq_true rfl) (Nat.le_of_ble_eq_true rfl) ⟨Nat.le_refl _, Nat.le_add_right _ _⟩ ⟨rfl, ⟨⟨(Eq.trans (congrFun (fr 164 rfl) 43) rfl), (Eq.trans (congrFun (fr 164 rfl) 8) rfl)⟩, zOf.up rfl (zOf.up rfl (zOf.up rfl (zOf.up rfl (zOf.up rfl (zOf.up rfl (zOf.up rfl (zOf.up rfl (zOf.up rfl (zOf.up rfl (zOf.up rfl (zOf.up rfl (zOf.up rfl ((zOf.mono fr (fun c hc => by simp [zbut] at hc ⊢; exact hc.2)).tr (zOf.up rfl (zOf.up rfl (zOf.up rfl (zOf.up rfl (zOf.up rfl (zOf.up rfl (zOf.up rfl zOf.rf))))))))))))))))))))⟩⟩
      · refine tz_aload_n (pc := 43) dX12_readsAll_43 rfl rfl ?_
        refine tz_fR (pc := 44) dX12_readsAll_44 fl_X12_9 r_164_0 ?_
        refine tz_bipush (pc := 47) dX12_readsAll_47 (by decide) ?_
        refine tz_iload_n (pc := 49) dX12_readsAll_49 rfl rfl ?_
        refine tz_iadd (pc := 50) (v := 126 + i) dX12_readsAll_50 rfl ?_
        refine tz_iconst (pc := 51) dX12_readsAll_51 ?_
        refine tz_aS (pc := 52) (z := (126 + i)) dX12_readsAll_52 a_165 rfl (by omega) (by decide) ?_
        refine tz_iinc (pc := 53) (z := i + 1) (L2 := [_, _, _]) dX12_readsAll_53 rfl (by omega) rfl ?_
        refine tz_goto (pc := 56) (tgt := 37) dX12_readsAll_56 (by decide) ?_
        exact ih37 (i + 1) _ (by omega) (by omega) (zOf.up rfl fr)
  exact loop37 _ 0 _ (Nat.lt_succ_self _) (by omega) zOf.rf

set_option maxHeartbeats 4000000 in
set_option maxRecDepth 100000 in
theorem zm_moves {l : Launch} {G : tb_G} (hl : l.stackTraces = false) (n : Nat) (J : zJ) (a : Int) (b : Int) (hr_a : -2147483648 ≤ a ∧ a < 2147483648) (hr_b : -2147483648 ≤ b ∧ b < 2147483648)  (h0 : (0 ≤ a ∧ a ≤ 800) ∧ 0 ≤ b ∧ b ≤ 800) : tz_Ok l G M_X12_movesTerms 0 0 0 [.ref 164, zi a, zi b] n J (zqv (fun J' => zOf (zbut [166, 167, 168]) J' J)) zN := by
  refine tz_Ok.of hl (by decide +kernel) rfl (tb_c1 rfl) (Nat.le_of_ble_eq_true rfl) ?_
  show tz_At l G M_X12_movesTerms (tb_rm 0 0 0) none (tb_ZM G 0 0 (zQ n 0 (zqv (fun J' => zOf (zbut [166, 167, 168]) J' J))) (zX n 0 zN)) 0 0 n J 0 [some (.ref 164), some (zi a), some (zi b), none, none] []
  refine tz_iconst (pc := 0) dX12_movesTerms_0 ?_
  refine tz_istore_n (pc := 1) (L2 := [_, _, _, _, _]) dX12_movesTerms_1 rfl (by decide) rfl ?_
  have loop2 : ∀ (f9 : Nat) (i : Int) (d4 : Option Value) (J1 : zJ), ((400 - i).toNat) < f9 → (0 ≤ i ∧ i ≤ 400) → (zOf (zbut [166, 167, 168]) J1 J) → tz_At l G M_X12_movesTerms (tb_rm 0 0 0) none (tb_ZM G 0 0 (zQ n 0 (zqv (fun J' => zOf (zbut [166, 167, 168]) J' J))) (zX n 0 zN)) 0 0 n J1 2 [some (.ref 164), some (zi a), some (zi b), some (zi i), d4] [] := by
    intro f9
    induction f9 with
    | zero => intro i d4 J1 hm9; exact absurd hm9 (Nat.not_lt_zero _)
    | succ f9 ih2 =>
      intro i d4 J1 hm2 hi fr
      refine tz_iload_n (pc := 2) dX12_movesTerms_2 rfl rfl ?_
      refine tz_sipush (pc := 3) dX12_movesTerms_3 (by decide) ?_
      refine tz_icmp_ge (pc := 6) (tgt := 88) dX12_movesTerms_6 (by decide) (by omega) (by decide) (fun h_6 => ?_) (fun h_6 => ?_)
      · exact tz_vret (pc := 88) dX12_movesTerms_88 rfl (Nat.le_of_ble_eq_true rfl) (Nat.le_of_ble_eq_true rfl) ⟨Nat.le_refl _, Nat.le_add_right _ _⟩ ⟨rfl, fr⟩
      · refine tz_aload_n (pc := 9) dX12_movesTerms_9 rfl rfl ?_
        refine tz_fR (pc := 10) dX12_movesTerms_10 fl_X12_13 r_164_1 ?_
        refine tz_iload_n (pc := 13) dX12_movesTerms_13 rfl rfl ?_
        refine tz_iload_n (pc := 14) dX12_movesTerms_14 rfl rfl ?_
        refine tz_iadd (pc := 15) (v := b + i) dX12_movesTerms_15 rfl ?_
        refine tz_aload_n (pc := 16) dX12_movesTerms_16 rfl rfl ?_
        refine tz_fR (pc := 17) dX12_movesTerms_17 fl_X12_13 r_164_1 ?_
        refine tz_iload_n (pc := 20) dX12_movesTerms_20 rfl rfl ?_
        refine tz_iload_n (pc := 21) dX12_movesTerms_21 rfl rfl ?_
        refine tz_iadd (pc := 22) (v := a + i) dX12_movesTerms_22 rfl ?_
        refine tz_aL (pc := 23) (z := (a + i)) (v := (J1 166 (a + i))) dX12_movesTerms_23 a_166 rfl (by omega) rfl (fun r_23 => ?_)
        refine tz_aS (pc := 24) (z := (b + i)) dX12_movesTerms_24 a_166 rfl (by omega) (by omega) ?_
        refine tz_aload_n (pc := 25) dX12_movesTerms_25 rfl rfl ?_
        refine tz_fR (pc := 26) dX12_movesTerms_26 fl_X12_19 r_164_3 ?_
        refine tz_iload_n (pc := 29) dX12_movesTerms_29 rfl rfl ?_
        refine tz_iload_n (pc := 30) dX12_movesTerms_30 rfl rfl ?_
        refine tz_iadd (pc := 31) (v := b + i) dX12_movesTerms_31 rfl ?_
        refine tz_aload_n (pc := 32) dX12_movesTerms_32 rfl rfl ?_
        refine tz_fR (pc := 33) dX12_movesTerms_33 fl_X12_19 r_164_3 ?_
        refine tz_iload_n (pc := 36) dX12_movesTerms_36 rfl rfl ?_
        refine tz_iload_n (pc := 37) dX12_movesTerms_37 rfl rfl ?_
        refine tz_iadd (pc := 38) (v := a + i) dX12_movesTerms_38 rfl ?_
        refine tz_aL (pc := 39) (z := (a + i)) (v := (J1 168 (a + i))) dX12_movesTerms_39 a_168 rfl (by omega) rfl (fun r_39 => ?_)
        refine tz_aS (pc := 40) (z := (b + i)) dX12_movesTerms_40 a_168 rfl (by omega) (by omega) ?_
        refine tz_iconst (pc := 41) dX12_movesTerms_41 ?_
        refine tz_istore (pc := 42) (L2 := [_, _, _, _, _]) dX12_movesTerms_42 (by decide) rfl ?_
        have loop44 : ∀ (f9 : Nat) (j : Int) (J2 : zJ), ((3 - j).toNat) < f9 → (0 ≤ j ∧ j ≤ 3) → (zOf (zbut [166, 167, 168]) J2 J) → tz_At l G M_X12_movesTerms (tb_rm 0 0 0) none (tb_ZM G 0 0 (zQ n 0 (zqv (fun J' => zOf (zbut [166, 167, 168]) J' J))) (zX n 0 zN)) 0 0 n J2 44 [some (.ref 164), some (zi a), some (zi b), some (zi i), some (zi j)] [] := by
          intro f9
          induction f9 with
          | zero => intro j J2 hm9; exact absurd hm9 (Nat.not_lt_zero _)
          | succ f9 ih44 =>
            intro j J2 hm44 hj fr2
            refine tz_iload (pc := 44) dX12_movesTerms_44 rfl ?_
            refine tz_iconst (pc := 46) dX12_movesTerms_46 ?_
            refine tz_icmp_ge (pc := 47) (tgt := 82) dX12_movesTerms_47 (by decide) (by omega) (by decide) (fun h_47 => ?_) (fun h_47 => ?_)
            · refine tz_iinc (pc := 82) (z := i + 1) (L2 := [_, _, _, _, _]) dX12_movesTerms_82 rfl (by omega) rfl ?_
              refine tz_goto (pc := 85) (tgt := 2) dX12_movesTerms_85 (by decide) ?_
              exact ih2 (i + 1) _ _ (by omega) (by omega) fr2
            · refine tz_aload_n (pc := 50) dX12_movesTerms_50 rfl rfl ?_
              refine tz_fR (pc := 51) dX12_movesTerms_51 fl_X12_16 r_164_2 ?_
              refine tz_iconst (pc := 54) dX12_movesTerms_54 ?_
              refine tz_iload_n (pc := 55) dX12_movesTerms_55 rfl rfl ?_
              refine tz_iload_n (pc := 56) dX12_movesTerms_56 rfl rfl ?_
              refine tz_iadd (pc := 57) (v := b + i) dX12_movesTerms_57 rfl ?_
              refine tz_imul (pc := 58) (v := 3 * (b + i)) dX12_movesTerms_58 rfl ?_
              refine tz_iload (pc := 59) dX12_movesTerms_59 rfl ?_
              refine tz_iadd (pc := 61) (v := (3 * (b + i)) + j) dX12_movesTerms_61 rfl ?_
              refine tz_aload_n (pc := 62) dX12_movesTerms_62 rfl rfl ?_
              refine tz_fR (pc := 63) dX12_movesTerms_63 fl_X12_16 r_164_2 ?_
              refine tz_iconst (pc := 66) dX12_movesTerms_66 ?_
              refine tz_iload_n (pc := 67) dX12_movesTerms_67 rfl rfl ?_
              refine tz_iload_n (pc := 68) dX12_movesTerms_68 rfl rfl ?_
              refine tz_iadd (pc := 69) (v := a + i) dX12_movesTerms_69 rfl ?_
              refine tz_imul (pc := 70) (v := 3 * (a + i)) dX12_movesTerms_70 rfl ?_
              refine tz_iload (pc := 71) dX12_movesTerms_71 rfl ?_
              refine tz_iadd (pc := 73) (v := (3 * (a + i)) + j) dX12_movesTerms_73 rfl ?_
              refine tz_aL (pc := 74) (z := ((3 * (a + i)) + j)) (v := (J2 167 ((3 * (a + i)) + j))) dX12_movesTerms_74 a_167 rfl (by omega) rfl (fun r_74 => ?_)
              refine tz_aS (pc := 75) (z := ((3 * (b + i)) + j)) dX12_movesTerms_75 a_167 rfl (by omega) (by omega) ?_
              refine tz_iinc (pc := 76) (z := j + 1) (L2 := [_, _, _, _, _]) dX12_movesTerms_76 rfl (by omega) rfl ?_
              refine tz_goto (pc := 79) (tgt := 44) dX12_movesTerms_79 (by decide) ?_
              exact ih44 (j + 1) _ (by omega) (by omega) (zOf.up rfl fr2)
        exact loop44 _ 0 _ (Nat.lt_succ_self _) (by omega) (zOf.up rfl (zOf.up rfl fr))
  exact loop2 _ 0 none _ (Nat.lt_succ_self _) (by omega) zOf.rf

theorem zm1_none {J : zJ} {x : Int} : (if (0 : Int) ≤ x ∧ x ≤ -1 then (1 : Int) else 0) = 0 := if_neg (by omega)
set_option maxHeartbeats 4000000 in
set_option maxRecDepth 100000 in
theorem zm1_isTerm {l : Launch} {G : tb_G} (hl : l.stackTraces = false) (n : Nat) (J : zJ) (t : Int) (hr_t : -2147483648 ≤ t ∧ t < 2147483648)  (h0 : J 165 0 = 0) : tz_Ok l G M_X12_isTerm 1 0 0 [.ref 164, zi t] n J (zqi (fun z J' => J = J' ∧ 0 = z)) zN := by
  refine tz_Ok.of hl (by decide +kernel) rfl (tb_c1 rfl) (Nat.le_of_ble_eq_true rfl) ?_
  show tz_At l G M_X12_isTerm (tb_rm 1 0 0) none (tb_ZM G 0 0 (zQ n 0 (zqi (fun z J' => J = J' ∧ 0 = z))) (zX n 0 zN)) 0 0 n J 0 [some (.ref 164), some (zi t)] []
  refine tz_iload_n (pc := 0) dX12_isTerm_0 rfl rfl ?_
  refine tz_iconst (pc := 1) dX12_isTerm_1 ?_
  refine tz_aload_n (pc := 2) dX12_isTerm_2 rfl rfl ?_
  refine tz_fR (pc := 3) dX12_isTerm_3 fl_X12_9 r_164_0 ?_
  refine tz_iconst (pc := 6) dX12_isTerm_6 ?_
  refine tz_aL (pc := 7) (z := 0) (v := 0) dX12_isTerm_7 a_165 rfl (by decide) h0 (fun _ => ?_)
  refine tz_iconst (pc := 8) dX12_isTerm_8 ?_
  refine tz_isub (pc := 9) (v := -1) dX12_isTerm_9 (by decide) ?_
  refine tz_cS (pc := 10) (zm_within hl n _ _ _ _ (by omega) (by decide) (by decide)) sl_X12_283 dX12_isTerm_10 rfl rfl (Nat.le_of_ble_eq_true rfl) ⟨(Nat.le_of_ble_eq_true rfl), (Nat.le_of_ble_eq_true rfl)⟩ rfl rfl (Nat.le_of_ble_eq_true rfl) (Nat.le_of_ble_eq_true rfl) (fun r9 J_10 hq9 => ?_)
  obtain ⟨z_10, rfl, hz_10, rfl, hv_10⟩ := hq9
  obtain rfl : 0 = z_10 := by rw [← hv_10, if_neg (by omega)]
  exact tz_zret (pc := 13) (z := 0) dX12_isTerm_13 rfl (Or.inl rfl) (Nat.le_of_ble_eq_true rfl) (Nat.le_of_ble_eq_true rfl) ⟨Nat.le_refl _, Nat.le_add_right _ _⟩ ⟨_, rfl, (by decide), ⟨rfl, rfl⟩⟩

set_option maxHeartbeats 4000000 in
set_option maxRecDepth 100000 in
theorem zm1_isSymbol {l : Launch} {G : tb_G} (hl : l.stackTraces = false) (n : Nat) (J : zJ) (t : Int) (hr_t : -2147483648 ≤ t ∧ t < 2147483648)  (h0 : J 164 9 = 0) : tz_Ok l G M_X12_isSymbol 1 0 0 [.ref 164, zi t] n J (zqi (fun z J' => J = J' ∧ 0 = z)) zN := by
  refine tz_Ok.of hl (by decide +kernel) rfl (tb_c1 rfl) (Nat.le_of_ble_eq_true rfl) ?_
  show tz_At l G M_X12_isSymbol (tb_rm 1 0 0) none (tb_ZM G 0 0 (zQ n 0 (zqi (fun z J' => J = J' ∧ 0 = z))) (zX n 0 zN)) 0 0 n J 0 [some (.ref 164), some (zi t)] []
  refine tz_iload_n (pc := 0) dX12_isSymbol_0 rfl rfl ?_
  refine tz_iconst (pc := 1) dX12_isSymbol_1 ?_
  refine tz_aload_n (pc := 2) dX12_isSymbol_2 rfl rfl ?_
  refine tz_fI (pc := 3) (kz := 9) (v := 0) dX12_isSymbol_3 fl_X12_347 i_164_9 rfl h0 (fun _ => ?_)
  refine tz_iconst (pc := 6) dX12_isSymbol_6 ?_
  refine tz_isub (pc := 7) (v := -1) dX12_isSymbol_7 (by decide) ?_
  refine tz_cS (pc := 8) (zm_within hl n _ _ _ _ (by omega) (by decide) (by decide)) sl_X12_283 dX12_isSymbol_8 rfl rfl (Nat.le_of_ble_eq_true rfl) ⟨(Nat.le_of_ble_eq_true rfl), (Nat.le_of_ble_eq_true rfl)⟩ rfl rfl (Nat.le_of_ble_eq_true rfl) (Nat.le_of_ble_eq_true rfl) (fun r9 J_8 hq9 => ?_)
  obtain ⟨z_8, rfl, hz_8, rfl, hv_8⟩ := hq9
  obtain rfl : 0 = z_8 := by rw [← hv_8, if_neg (by omega)]
  exact tz_zret (pc := 11) (z := 0) dX12_isSymbol_11 rfl (Or.inl rfl) (Nat.le_of_ble_eq_true rfl) (Nat.le_of_ble_eq_true rfl) ⟨Nat.le_refl _, Nat.le_add_right _ _⟩ ⟨_, rfl, (by decide), ⟨rfl, rfl⟩⟩

set_option maxHeartbeats 4000000 in
set_option maxRecDepth 100000 in
theorem zm1_isTermNow {l : Launch} {G : tb_G} (hl : l.stackTraces = false) (n : Nat) (J : zJ) (t : Int) (hr_t : -2147483648 ≤ t ∧ t < 2147483648)  (h0 : J 165 0 = 0) (h1 : J 164 8 = 0) : tz_Ok l G M_X12_isTermNow 2 0 0 [.ref 164, zi t] n J (zqi (fun z J' => zup J 164 8 1 = J' ∧ 0 = z)) zN := by
  refine tz_Ok.of hl (by decide +kernel) rfl (tb_c1 rfl) (Nat.le_of_ble_eq_true rfl) ?_
  show tz_At l G M_X12_isTermNow (tb_rm 2 0 0) none (tb_ZM G 0 0 (zQ n 0 (zqi (fun z J' => zup J 164 8 1 = J' ∧ 0 = z))) (zX n 0 zN)) 0 0 n J 0 [some (.ref 164), some (zi t)] []
  refine tz_aload_n (pc := 0) dX12_isTermNow_0 rfl rfl ?_
  refine tz_aload_n (pc := 1) dX12_isTermNow_1 rfl rfl ?_
  refine tz_iload_n (pc := 2) dX12_isTermNow_2 rfl rfl ?_
  refine tz_cV (pc := 3) (zm1_isTerm hl n _ _ hr_t h0) vl_X12_376 dX12_isTermNow_3 o_164 rfl rfl (Nat.le_of_ble_eq_true rfl) ⟨(Nat.le_of_ble_eq_true rfl), (Nat.le_of_ble_eq_true rfl)⟩ rfl rfl (Nat.le_of_ble_eq_true rfl) (Nat.le_of_ble_eq_true rfl) (fun r9 J_3 hq9 => ?_)
  obtain ⟨z_3, rfl, hz_3, rfl, rfl⟩ := hq9
  refine tz_iconst (pc := 6) dX12_isTermNow_6 ?_
  refine tz_cV (pc := 7) (zm_right0 hl n _ _ (by decide) h1 (by decide)) vl_X12_334 dX12_isTermNow_7 o_164 rfl rfl (Nat.le_of_ble_eq_true rfl) ⟨(Nat.le_of_ble_eq_true rfl), (Nat.le_of_ble_eq_true rfl)⟩ rfl rfl (Nat.le_of_ble_eq_true rfl) (Nat.le_of_ble_eq_true rfl) (fun r9 J_7 hq9 => ?_)
  obtain ⟨z_7, rfl, hz_7, rfl, rfl⟩ := hq9
  exact tz_zret (pc := 10) (z := 0) dX12_isTermNow_10 rfl (Or.inl rfl) (Nat.le_of_ble_eq_true rfl) (Nat.le_of_ble_eq_true rfl) ⟨Nat.le_refl _, Nat.le_add_right _ _⟩ ⟨_, rfl, (by decide), ⟨rfl, rfl⟩⟩

set_option maxHeartbeats 4000000 in
set_option maxRecDepth 100000 in
theorem m1_apply {l : Launch} {G : tb_G} (hl : l.stackTraces = false) (n : Nat) (I : tb_I) (F : tb_Fm I) (a : Int) (hr_a : -2147483648 ≤ a ∧ a < 2147483648)   : tz_Ok l G M_X12_apply 2 0 0 [.ref 164, zi a] n (zj I) (zqi (fun z J' => z = (-1) ∧ J' 164 8 = (0) ∧ J' 183 = zj I 183)) zN := by
  refine tz_Ok.of hl (by decide +kernel) rfl (tb_c1 rfl) (Nat.le_of_ble_eq_true rfl) ?_
  show tz_At l G M_X12_apply (tb_rm 2 0 0) none (tb_ZM G 0 0 (zQ n 0 (zqi (fun z J' => z = (-1) ∧ J' 164 8 = (0) ∧ J' 183 = zj I 183))) (zX n 0 zN)) 0 0 n (zj I) 0 [some (.ref 164), some (zi a)] []
  refine tz_aload_n (pc := 0) dX12_apply_0 rfl rfl ?_
  refine tz_iconst (pc := 1) dX12_apply_1 ?_
  refine tz_pI (pc := 2) (kz := 8) dX12_apply_2 fl_X12_68 i_164_8 rfl rfl (by decide) ?_
  refine tz_aload_n (pc := 5) dX12_apply_5 rfl rfl ?_
  refine tz_iload_n (pc := 6) dX12_apply_6 rfl rfl ?_
  refine tz_cV (pc := 7) (zm1_isTerm hl n _ _ (by omega) (zjv (z := 0) (F.at (by decide) z_165_0) rfl (by decide))) vl_X12_376 dX12_apply_7 o_164 rfl rfl (Nat.le_of_ble_eq_true rfl) ⟨(Nat.le_of_ble_eq_true rfl), (Nat.le_of_ble_eq_true rfl)⟩ rfl rfl (Nat.le_of_ble_eq_true rfl) (Nat.le_of_ble_eq_true rfl) (fun r9 J_7 hq9 => ?_)
  obtain ⟨z_7, rfl, hz_7, rfl, rfl⟩ := hq9
  refine tz_if_neF (pc := 10) (tgt := 20) (by decide) dX12_apply_10 (by decide) (by decide) ?_
  refine tz_aload_n (pc := 13) dX12_apply_13 rfl rfl ?_
  refine tz_iconst (pc := 14) dX12_apply_14 ?_
  refine tz_iconst (pc := 15) dX12_apply_15 ?_
  refine tz_cV (pc := 16) (zm_refuses hl n _ _ _ (by decide) (by decide) (by decide)) vl_X12_391 dX12_apply_16 o_164 rfl rfl (Nat.le_of_ble_eq_true rfl) ⟨(Nat.le_of_ble_eq_true rfl), (Nat.le_of_ble_eq_true rfl)⟩ rfl rfl (Nat.le_of_ble_eq_true rfl) (Nat.le_of_ble_eq_true rfl) (fun r9 J_16 hq9 => ?_)
  obtain ⟨z_16, rfl, hz_16, rfl, f_16⟩ := hq9
  exact tz_iret (pc := 19) (z := (-1)) dX12_apply_19 rfl (Nat.le_of_ble_eq_true rfl) (Nat.le_of_ble_eq_true rfl) ⟨Nat.le_refl _, Nat.le_add_right _ _⟩ ⟨_, rfl, (by decide), ⟨rfl, (Eq.trans (congrFun (f_16 164 rfl) 8) rfl), (Eq.trans (f_16 183 rfl) rfl)⟩⟩

set_option maxHeartbeats 4000000 in
set_option maxRecDepth 100000 in
theorem m1_close {l : Launch} {G : tb_G} (hl : l.stackTraces = false) (n : Nat) (I : tb_I) (F : tb_Fm I) (a : Int) (hr_a : -2147483648 ≤ a ∧ a < 2147483648)   : tz_Ok l G M_X12_close 2 0 0 [.ref 164, zi a] n (zj I) (zqi (fun z J' => z = (-1) ∧ J' 164 8 = (0) ∧ J' 183 = zj I 183)) zN := by
  refine tz_Ok.of hl (by decide +kernel) rfl (tb_c1 rfl) (Nat.le_of_ble_eq_true rfl) ?_
  show tz_At l G M_X12_close (tb_rm 2 0 0) none (tb_ZM G 0 0 (zQ n 0 (zqi (fun z J' => z = (-1) ∧ J' 164 8 = (0) ∧ J' 183 = zj I 183))) (zX n 0 zN)) 0 0 n (zj I) 0 [some (.ref 164), some (zi a)] []
  refine tz_aload_n (pc := 0) dX12_close_0 rfl rfl ?_
  refine tz_iconst (pc := 1) dX12_close_1 ?_
  refine tz_pI (pc := 2) (kz := 8) dX12_close_2 fl_X12_68 i_164_8 rfl rfl (by decide) ?_
  refine tz_aload_n (pc := 5) dX12_close_5 rfl rfl ?_
  refine tz_iload_n (pc := 6) dX12_close_6 rfl rfl ?_
  refine tz_cV (pc := 7) (zm1_isTerm hl n _ _ (by omega) (zjv (z := 0) (F.at (by decide) z_165_0) rfl (by decide))) vl_X12_376 dX12_close_7 o_164 rfl rfl (Nat.le_of_ble_eq_true rfl) ⟨(Nat.le_of_ble_eq_true rfl), (Nat.le_of_ble_eq_true rfl)⟩ rfl rfl (Nat.le_of_ble_eq_true rfl) (Nat.le_of_ble_eq_true rfl) (fun r9 J_7 hq9 => ?_)
  obtain ⟨z_7, rfl, hz_7, rfl, rfl⟩ := hq9
  refine tz_if_neF (pc := 10) (tgt := 20) (by decide) dX12_close_10 (by decide) (by decide) ?_
  refine tz_aload_n (pc := 13) dX12_close_13 rfl rfl ?_
  refine tz_iconst (pc := 14) dX12_close_14 ?_
  refine tz_iconst (pc := 15) dX12_close_15 ?_
  refine tz_cV (pc := 16) (zm_refuses hl n _ _ _ (by decide) (by decide) (by decide)) vl_X12_391 dX12_close_16 o_164 rfl rfl (Nat.le_of_ble_eq_true rfl) ⟨(Nat.le_of_ble_eq_true rfl), (Nat.le_of_ble_eq_true rfl)⟩ rfl rfl (Nat.le_of_ble_eq_true rfl) (Nat.le_of_ble_eq_true rfl) (fun r9 J_16 hq9 => ?_)
  obtain ⟨z_16, rfl, hz_16, rfl, f_16⟩ := hq9
  exact tz_iret (pc := 19) (z := (-1)) dX12_close_19 rfl (Nat.le_of_ble_eq_true rfl) (Nat.le_of_ble_eq_true rfl) ⟨Nat.le_refl _, Nat.le_add_right _ _⟩ ⟨_, rfl, (by decide), ⟨rfl, (Eq.trans (congrFun (f_16 164 rfl) 8) rfl), (Eq.trans (f_16 183 rfl) rfl)⟩⟩

set_option maxHeartbeats 4000000 in
set_option maxRecDepth 100000 in
theorem m1_unify {l : Launch} {G : tb_G} (hl : l.stackTraces = false) (n : Nat) (I : tb_I) (F : tb_Fm I) (a : Int) (b : Int) (hr_a : -2147483648 ≤ a ∧ a < 2147483648) (hr_b : -2147483648 ≤ b ∧ b < 2147483648)   : tz_Ok l G M_X12_unify 2 0 0 [.ref 164, zi a, zi b] n (zj I) (zqi (fun z J' => z = (-1) ∧ J' 164 8 = (0) ∧ J' 183 = zj I 183)) zN := by
  refine tz_Ok.of hl (by decide +kernel) rfl (tb_c1 rfl) (Nat.le_of_ble_eq_true rfl) ?_
  show tz_At l G M_X12_unify (tb_rm 2 0 0) none (tb_ZM G 0 0 (zQ n 0 (zqi (fun z J' => z = (-1) ∧ J' 164 8 = (0) ∧ J' 183 = zj I 183))) (zX n 0 zN)) 0 0 n (zj I) 0 [some (.ref 164), some (zi a), some (zi b), none] []
  refine tz_aload_n (pc := 0) dX12_unify_0 rfl rfl ?_
  refine tz_iconst (pc := 1) dX12_unify_1 ?_
  refine tz_pI (pc := 2) (kz := 8) dX12_unify_2 fl_X12_68 i_164_8 rfl rfl (by decide) ?_
  refine tz_aload_n (pc := 5) dX12_unify_5 rfl rfl ?_
  refine tz_iload_n (pc := 6) dX12_unify_6 rfl rfl ?_
  refine tz_cV (pc := 7) (zm1_isTerm hl n _ _ (by omega) (zjv (z := 0) (F.at (by decide) z_165_0) rfl (by decide))) vl_X12_376 dX12_unify_7 o_164 rfl rfl (Nat.le_of_ble_eq_true rfl) ⟨(Nat.le_of_ble_eq_true rfl), (Nat.le_of_ble_eq_true rfl)⟩ rfl rfl (Nat.le_of_ble_eq_true rfl) (Nat.le_of_ble_eq_true rfl) (fun r9 J_7 hq9 => ?_)
  obtain ⟨z_7, rfl, hz_7, rfl, rfl⟩ := hq9
  refine tz_if_eqT (pc := 10) (tgt := 21) (by decide) dX12_unify_10 (by decide) (by decide) ?_
  refine tz_aload_n (pc := 21) dX12_unify_21 rfl rfl ?_
  refine tz_iconst (pc := 22) dX12_unify_22 ?_
  refine tz_iconst (pc := 23) dX12_unify_23 ?_
  refine tz_cV (pc := 24) (zm_refuses hl n _ _ _ (by decide) (by decide) (by decide)) vl_X12_391 dX12_unify_24 o_164 rfl rfl (Nat.le_of_ble_eq_true rfl) ⟨(Nat.le_of_ble_eq_true rfl), (Nat.le_of_ble_eq_true rfl)⟩ rfl rfl (Nat.le_of_ble_eq_true rfl) (Nat.le_of_ble_eq_true rfl) (fun r9 J_24 hq9 => ?_)
  obtain ⟨z_24, rfl, hz_24, rfl, f_24⟩ := hq9
  exact tz_iret (pc := 27) (z := (-1)) dX12_unify_27 rfl (Nat.le_of_ble_eq_true rfl) (Nat.le_of_ble_eq_true rfl) ⟨Nat.le_refl _, Nat.le_add_right _ _⟩ ⟨_, rfl, (by decide), ⟨rfl, (Eq.trans (congrFun (f_24 164 rfl) 8) rfl), (Eq.trans (f_24 183 rfl) rfl)⟩⟩

set_option maxHeartbeats 4000000 in
set_option maxRecDepth 100000 in
theorem m1_match {l : Launch} {G : tb_G} (hl : l.stackTraces = false) (n : Nat) (I : tb_I) (F : tb_Fm I) (a : Int) (b : Int) (hr_a : -2147483648 ≤ a ∧ a < 2147483648) (hr_b : -2147483648 ≤ b ∧ b < 2147483648)   : tz_Ok l G M_X12_match 2 0 0 [.ref 164, zi a, zi b] n (zj I) (zqi (fun z J' => z = (-1) ∧ J' 164 8 = (0) ∧ J' 183 = zj I 183)) zN := by
  refine tz_Ok.of hl (by decide +kernel) rfl (tb_c1 rfl) (Nat.le_of_ble_eq_true rfl) ?_
  show tz_At l G M_X12_match (tb_rm 2 0 0) none (tb_ZM G 0 0 (zQ n 0 (zqi (fun z J' => z = (-1) ∧ J' 164 8 = (0) ∧ J' 183 = zj I 183))) (zX n 0 zN)) 0 0 n (zj I) 0 [some (.ref 164), some (zi a), some (zi b), none] []
  refine tz_aload_n (pc := 0) dX12_match_0 rfl rfl ?_
  refine tz_iconst (pc := 1) dX12_match_1 ?_
  refine tz_pI (pc := 2) (kz := 8) dX12_match_2 fl_X12_68 i_164_8 rfl rfl (by decide) ?_
  refine tz_aload_n (pc := 5) dX12_match_5 rfl rfl ?_
  refine tz_iload_n (pc := 6) dX12_match_6 rfl rfl ?_
  refine tz_cV (pc := 7) (zm1_isTerm hl n _ _ (by omega) (zjv (z := 0) (F.at (by decide) z_165_0) rfl (by decide))) vl_X12_376 dX12_match_7 o_164 rfl rfl (Nat.le_of_ble_eq_true rfl) ⟨(Nat.le_of_ble_eq_true rfl), (Nat.le_of_ble_eq_true rfl)⟩ rfl rfl (Nat.le_of_ble_eq_true rfl) (Nat.le_of_ble_eq_true rfl) (fun r9 J_7 hq9 => ?_)
  obtain ⟨z_7, rfl, hz_7, rfl, rfl⟩ := hq9
  refine tz_if_eqT (pc := 10) (tgt := 21) (by decide) dX12_match_10 (by decide) (by decide) ?_
  refine tz_aload_n (pc := 21) dX12_match_21 rfl rfl ?_
  refine tz_iconst (pc := 22) dX12_match_22 ?_
  refine tz_iconst (pc := 23) dX12_match_23 ?_
  refine tz_cV (pc := 24) (zm_refuses hl n _ _ _ (by decide) (by decide) (by decide)) vl_X12_391 dX12_match_24 o_164 rfl rfl (Nat.le_of_ble_eq_true rfl) ⟨(Nat.le_of_ble_eq_true rfl), (Nat.le_of_ble_eq_true rfl)⟩ rfl rfl (Nat.le_of_ble_eq_true rfl) (Nat.le_of_ble_eq_true rfl) (fun r9 J_24 hq9 => ?_)
  obtain ⟨z_24, rfl, hz_24, rfl, f_24⟩ := hq9
  exact tz_iret (pc := 27) (z := (-1)) dX12_match_27 rfl (Nat.le_of_ble_eq_true rfl) (Nat.le_of_ble_eq_true rfl) ⟨Nat.le_refl _, Nat.le_add_right _ _⟩ ⟨_, rfl, (by decide), ⟨rfl, (Eq.trans (congrFun (f_24 164 rfl) 8) rfl), (Eq.trans (f_24 183 rfl) rfl)⟩⟩

set_option maxHeartbeats 4000000 in
set_option maxRecDepth 100000 in
theorem m1_common {l : Launch} {G : tb_G} (hl : l.stackTraces = false) (n : Nat) (I : tb_I) (F : tb_Fm I) (a : Int) (b : Int) (hr_a : -2147483648 ≤ a ∧ a < 2147483648) (hr_b : -2147483648 ≤ b ∧ b < 2147483648)   : tz_Ok l G M_X12_common 2 0 0 [.ref 164, zi a, zi b] n (zj I) (zqi (fun z J' => z = (-1) ∧ J' 164 8 = (0) ∧ J' 183 = zj I 183)) zN := by
  refine tz_Ok.of hl (by decide +kernel) rfl (tb_c1 rfl) (Nat.le_of_ble_eq_true rfl) ?_
  show tz_At l G M_X12_common (tb_rm 2 0 0) none (tb_ZM G 0 0 (zQ n 0 (zqi (fun z J' => z = (-1) ∧ J' 164 8 = (0) ∧ J' 183 = zj I 183))) (zX n 0 zN)) 0 0 n (zj I) 0 [some (.ref 164), some (zi a), some (zi b), none] []
  refine tz_aload_n (pc := 0) dX12_common_0 rfl rfl ?_
  refine tz_iconst (pc := 1) dX12_common_1 ?_
  refine tz_pI (pc := 2) (kz := 8) dX12_common_2 fl_X12_68 i_164_8 rfl rfl (by decide) ?_
  refine tz_aload_n (pc := 5) dX12_common_5 rfl rfl ?_
  refine tz_iload_n (pc := 6) dX12_common_6 rfl rfl ?_
  refine tz_cV (pc := 7) (zm1_isTerm hl n _ _ (by omega) (zjv (z := 0) (F.at (by decide) z_165_0) rfl (by decide))) vl_X12_376 dX12_common_7 o_164 rfl rfl (Nat.le_of_ble_eq_true rfl) ⟨(Nat.le_of_ble_eq_true rfl), (Nat.le_of_ble_eq_true rfl)⟩ rfl rfl (Nat.le_of_ble_eq_true rfl) (Nat.le_of_ble_eq_true rfl) (fun r9 J_7 hq9 => ?_)
  obtain ⟨z_7, rfl, hz_7, rfl, rfl⟩ := hq9
  refine tz_if_eqT (pc := 10) (tgt := 21) (by decide) dX12_common_10 (by decide) (by decide) ?_
  refine tz_aload_n (pc := 21) dX12_common_21 rfl rfl ?_
  refine tz_iconst (pc := 22) dX12_common_22 ?_
  refine tz_iconst (pc := 23) dX12_common_23 ?_
  refine tz_cV (pc := 24) (zm_refuses hl n _ _ _ (by decide) (by decide) (by decide)) vl_X12_391 dX12_common_24 o_164 rfl rfl (Nat.le_of_ble_eq_true rfl) ⟨(Nat.le_of_ble_eq_true rfl), (Nat.le_of_ble_eq_true rfl)⟩ rfl rfl (Nat.le_of_ble_eq_true rfl) (Nat.le_of_ble_eq_true rfl) (fun r9 J_24 hq9 => ?_)
  obtain ⟨z_24, rfl, hz_24, rfl, f_24⟩ := hq9
  exact tz_iret (pc := 27) (z := (-1)) dX12_common_27 rfl (Nat.le_of_ble_eq_true rfl) (Nat.le_of_ble_eq_true rfl) ⟨Nat.le_refl _, Nat.le_add_right _ _⟩ ⟨_, rfl, (by decide), ⟨rfl, (Eq.trans (congrFun (f_24 164 rfl) 8) rfl), (Eq.trans (f_24 183 rfl) rfl)⟩⟩

set_option maxHeartbeats 4000000 in
set_option maxRecDepth 100000 in
theorem m1_normal {l : Launch} {G : tb_G} (hl : l.stackTraces = false) (n : Nat) (I : tb_I) (F : tb_Fm I) (a : Int) (hr_a : -2147483648 ≤ a ∧ a < 2147483648)   : tz_Ok l G M_X12_normal 2 0 0 [.ref 164, zi a] n (zj I) (zqi (fun z J' => z = (-1) ∧ J' 164 8 = (0) ∧ J' 183 = zj I 183)) zN := by
  refine tz_Ok.of hl (by decide +kernel) rfl (tb_c1 rfl) (Nat.le_of_ble_eq_true rfl) ?_
  show tz_At l G M_X12_normal (tb_rm 2 0 0) none (tb_ZM G 0 0 (zQ n 0 (zqi (fun z J' => z = (-1) ∧ J' 164 8 = (0) ∧ J' 183 = zj I 183))) (zX n 0 zN)) 0 0 n (zj I) 0 [some (.ref 164), some (zi a), none] []
  refine tz_aload_n (pc := 0) dX12_normal_0 rfl rfl ?_
  refine tz_iconst (pc := 1) dX12_normal_1 ?_
  refine tz_pI (pc := 2) (kz := 8) dX12_normal_2 fl_X12_68 i_164_8 rfl rfl (by decide) ?_
  refine tz_aload_n (pc := 5) dX12_normal_5 rfl rfl ?_
  refine tz_iload_n (pc := 6) dX12_normal_6 rfl rfl ?_
  refine tz_cV (pc := 7) (zm1_isTerm hl n _ _ (by omega) (zjv (z := 0) (F.at (by decide) z_165_0) rfl (by decide))) vl_X12_376 dX12_normal_7 o_164 rfl rfl (Nat.le_of_ble_eq_true rfl) ⟨(Nat.le_of_ble_eq_true rfl), (Nat.le_of_ble_eq_true rfl)⟩ rfl rfl (Nat.le_of_ble_eq_true rfl) (Nat.le_of_ble_eq_true rfl) (fun r9 J_7 hq9 => ?_)
  obtain ⟨z_7, rfl, hz_7, rfl, rfl⟩ := hq9
  refine tz_if_neF (pc := 10) (tgt := 20) (by decide) dX12_normal_10 (by decide) (by decide) ?_
  refine tz_aload_n (pc := 13) dX12_normal_13 rfl rfl ?_
  refine tz_iconst (pc := 14) dX12_normal_14 ?_
  refine tz_iconst (pc := 15) dX12_normal_15 ?_
  refine tz_cV (pc := 16) (zm_refuses hl n _ _ _ (by decide) (by decide) (by decide)) vl_X12_391 dX12_normal_16 o_164 rfl rfl (Nat.le_of_ble_eq_true rfl) ⟨(Nat.le_of_ble_eq_true rfl), (Nat.le_of_ble_eq_true rfl)⟩ rfl rfl (Nat.le_of_ble_eq_true rfl) (Nat.le_of_ble_eq_true rfl) (fun r9 J_16 hq9 => ?_)
  obtain ⟨z_16, rfl, hz_16, rfl, f_16⟩ := hq9
  exact tz_iret (pc := 19) (z := (-1)) dX12_normal_19 rfl (Nat.le_of_ble_eq_true rfl) (Nat.le_of_ble_eq_true rfl) ⟨Nat.le_refl _, Nat.le_add_right _ _⟩ ⟨_, rfl, (by decide), ⟨rfl, (Eq.trans (congrFun (f_16 164 rfl) 8) rfl), (Eq.trans (f_16 183 rfl) rfl)⟩⟩

set_option maxHeartbeats 4000000 in
set_option maxRecDepth 100000 in
theorem m1_put {l : Launch} {G : tb_G} (hl : l.stackTraces = false) (n : Nat) (I : tb_I) (F : tb_Fm I) (a : Int) (b : Int) (c : Int) (hr_a : -2147483648 ≤ a ∧ a < 2147483648) (hr_b : -2147483648 ≤ b ∧ b < 2147483648) (hr_c : -2147483648 ≤ c ∧ c < 2147483648)   : tz_Ok l G M_X12_put 2 0 0 [.ref 164, zi a, zi b, zi c] n (zj I) (zqi (fun z J' => z = (-1) ∧ J' 164 8 = (0) ∧ J' 183 = zj I 183)) zN := by
  refine tz_Ok.of hl (by decide +kernel) rfl (tb_c1 rfl) (Nat.le_of_ble_eq_true rfl) ?_
  show tz_At l G M_X12_put (tb_rm 2 0 0) none (tb_ZM G 0 0 (zQ n 0 (zqi (fun z J' => z = (-1) ∧ J' 164 8 = (0) ∧ J' 183 = zj I 183))) (zX n 0 zN)) 0 0 n (zj I) 0 [some (.ref 164), some (zi a), some (zi b), some (zi c)] []
  refine tz_aload_n (pc := 0) dX12_put_0 rfl rfl ?_
  refine tz_iconst (pc := 1) dX12_put_1 ?_
  refine tz_pI (pc := 2) (kz := 8) dX12_put_2 fl_X12_68 i_164_8 rfl rfl (by decide) ?_
  refine tz_aload_n (pc := 5) dX12_put_5 rfl rfl ?_
  refine tz_iload_n (pc := 6) dX12_put_6 rfl rfl ?_
  refine tz_cV (pc := 7) (zm1_isTerm hl n _ _ (by omega) (zjv (z := 0) (F.at (by decide) z_165_0) rfl (by decide))) vl_X12_376 dX12_put_7 o_164 rfl rfl (Nat.le_of_ble_eq_true rfl) ⟨(Nat.le_of_ble_eq_true rfl), (Nat.le_of_ble_eq_true rfl)⟩ rfl rfl (Nat.le_of_ble_eq_true rfl) (Nat.le_of_ble_eq_true rfl) (fun r9 J_7 hq9 => ?_)
  obtain ⟨z_7, rfl, hz_7, rfl, rfl⟩ := hq9
  refine tz_if_eqT (pc := 10) (tgt := 31) (by decide) dX12_put_10 (by decide) (by decide) ?_
  refine tz_aload_n (pc := 31) dX12_put_31 rfl rfl ?_
  refine tz_iconst (pc := 32) dX12_put_32 ?_
  refine tz_iconst (pc := 33) dX12_put_33 ?_
  refine tz_cV (pc := 34) (zm_refuses hl n _ _ _ (by decide) (by decide) (by decide)) vl_X12_391 dX12_put_34 o_164 rfl rfl (Nat.le_of_ble_eq_true rfl) ⟨(Nat.le_of_ble_eq_true rfl), (Nat.le_of_ble_eq_true rfl)⟩ rfl rfl (Nat.le_of_ble_eq_true rfl) (Nat.le_of_ble_eq_true rfl) (fun r9 J_34 hq9 => ?_)
  obtain ⟨z_34, rfl, hz_34, rfl, f_34⟩ := hq9
  exact tz_iret (pc := 37) (z := (-1)) dX12_put_37 rfl (Nat.le_of_ble_eq_true rfl) (Nat.le_of_ble_eq_true rfl) ⟨Nat.le_refl _, Nat.le_add_right _ _⟩ ⟨_, rfl, (by decide), ⟨rfl, (Eq.trans (congrFun (f_34 164 rfl) 8) rfl), (Eq.trans (f_34 183 rfl) rfl)⟩⟩

set_option maxHeartbeats 4000000 in
set_option maxRecDepth 100000 in
theorem m1_rules {l : Launch} {G : tb_G} (hl : l.stackTraces = false) (n : Nat) (I : tb_I) (F : tb_Fm I) (a : Int) (b : Int) (hr_a : -2147483648 ≤ a ∧ a < 2147483648) (hr_b : -2147483648 ≤ b ∧ b < 2147483648)   : tz_Ok l G M_X12_rules 2 0 0 [.ref 164, zi a, zi b] n (zj I) (zqi (fun z J' => z = (-1) ∧ J' 164 8 = (0) ∧ J' 183 = zj I 183)) zN := by
  refine tz_Ok.of hl (by decide +kernel) rfl (tb_c1 rfl) (Nat.le_of_ble_eq_true rfl) ?_
  show tz_At l G M_X12_rules (tb_rm 2 0 0) none (tb_ZM G 0 0 (zQ n 0 (zqi (fun z J' => z = (-1) ∧ J' 164 8 = (0) ∧ J' 183 = zj I 183))) (zX n 0 zN)) 0 0 n (zj I) 0 [some (.ref 164), some (zi a), some (zi b)] []
  refine tz_aload_n (pc := 0) dX12_rules_0 rfl rfl ?_
  refine tz_iconst (pc := 1) dX12_rules_1 ?_
  refine tz_pI (pc := 2) (kz := 8) dX12_rules_2 fl_X12_68 i_164_8 rfl rfl (by decide) ?_
  refine tz_aload_n (pc := 5) dX12_rules_5 rfl rfl ?_
  refine tz_iload_n (pc := 6) dX12_rules_6 rfl rfl ?_
  refine tz_cV (pc := 7) (zm1_isTerm hl n _ _ (by omega) (zjv (z := 0) (F.at (by decide) z_165_0) rfl (by decide))) vl_X12_376 dX12_rules_7 o_164 rfl rfl (Nat.le_of_ble_eq_true rfl) ⟨(Nat.le_of_ble_eq_true rfl), (Nat.le_of_ble_eq_true rfl)⟩ rfl rfl (Nat.le_of_ble_eq_true rfl) (Nat.le_of_ble_eq_true rfl) (fun r9 J_7 hq9 => ?_)
  obtain ⟨z_7, rfl, hz_7, rfl, rfl⟩ := hq9
  refine tz_if_eqT (pc := 10) (tgt := 42) (by decide) dX12_rules_10 (by decide) (by decide) ?_
  refine tz_aload_n (pc := 42) dX12_rules_42 rfl rfl ?_
  refine tz_iconst (pc := 43) dX12_rules_43 ?_
  refine tz_iconst (pc := 44) dX12_rules_44 ?_
  refine tz_cV (pc := 45) (zm_refuses hl n _ _ _ (by decide) (by decide) (by decide)) vl_X12_391 dX12_rules_45 o_164 rfl rfl (Nat.le_of_ble_eq_true rfl) ⟨(Nat.le_of_ble_eq_true rfl), (Nat.le_of_ble_eq_true rfl)⟩ rfl rfl (Nat.le_of_ble_eq_true rfl) (Nat.le_of_ble_eq_true rfl) (fun r9 J_45 hq9 => ?_)
  obtain ⟨z_45, rfl, hz_45, rfl, f_45⟩ := hq9
  exact tz_iret (pc := 48) (z := (-1)) dX12_rules_48 rfl (Nat.le_of_ble_eq_true rfl) (Nat.le_of_ble_eq_true rfl) ⟨Nat.le_refl _, Nat.le_add_right _ _⟩ ⟨_, rfl, (by decide), ⟨rfl, (Eq.trans (congrFun (f_45 164 rfl) 8) rfl), (Eq.trans (f_45 183 rfl) rfl)⟩⟩

set_option maxHeartbeats 4000000 in
set_option maxRecDepth 100000 in
theorem m1_enter {l : Launch} {G : tb_G} (hl : l.stackTraces = false) (n : Nat) (I : tb_I) (F : tb_Fm I) (a : Int) (hr_a : -2147483648 ≤ a ∧ a < 2147483648)   : tz_Ok l G M_X12_enter 2 0 0 [.ref 164, zi a] n (zj I) (zqi (fun z J' => z = (-1) ∧ J' 164 8 = (0) ∧ J' 183 = zj I 183)) zN := by
  refine tz_Ok.of hl (by decide +kernel) rfl (tb_c1 rfl) (Nat.le_of_ble_eq_true rfl) ?_
  show tz_At l G M_X12_enter (tb_rm 2 0 0) none (tb_ZM G 0 0 (zQ n 0 (zqi (fun z J' => z = (-1) ∧ J' 164 8 = (0) ∧ J' 183 = zj I 183))) (zX n 0 zN)) 0 0 n (zj I) 0 [some (.ref 164), some (zi a)] []
  refine tz_aload_n (pc := 0) dX12_enter_0 rfl rfl ?_
  refine tz_iconst (pc := 1) dX12_enter_1 ?_
  refine tz_pI (pc := 2) (kz := 8) dX12_enter_2 fl_X12_68 i_164_8 rfl rfl (by decide) ?_
  refine tz_aload_n (pc := 5) dX12_enter_5 rfl rfl ?_
  refine tz_iload_n (pc := 6) dX12_enter_6 rfl rfl ?_
  refine tz_cV (pc := 7) (zm1_isTerm hl n _ _ (by omega) (zjv (z := 0) (F.at (by decide) z_165_0) rfl (by decide))) vl_X12_376 dX12_enter_7 o_164 rfl rfl (Nat.le_of_ble_eq_true rfl) ⟨(Nat.le_of_ble_eq_true rfl), (Nat.le_of_ble_eq_true rfl)⟩ rfl rfl (Nat.le_of_ble_eq_true rfl) (Nat.le_of_ble_eq_true rfl) (fun r9 J_7 hq9 => ?_)
  obtain ⟨z_7, rfl, hz_7, rfl, rfl⟩ := hq9
  refine tz_if_eqT (pc := 10) (tgt := 34) (by decide) dX12_enter_10 (by decide) (by decide) ?_
  refine tz_aload_n (pc := 34) dX12_enter_34 rfl rfl ?_
  refine tz_iconst (pc := 35) dX12_enter_35 ?_
  refine tz_iconst (pc := 36) dX12_enter_36 ?_
  refine tz_cV (pc := 37) (zm_refuses hl n _ _ _ (by decide) (by decide) (by decide)) vl_X12_391 dX12_enter_37 o_164 rfl rfl (Nat.le_of_ble_eq_true rfl) ⟨(Nat.le_of_ble_eq_true rfl), (Nat.le_of_ble_eq_true rfl)⟩ rfl rfl (Nat.le_of_ble_eq_true rfl) (Nat.le_of_ble_eq_true rfl) (fun r9 J_37 hq9 => ?_)
  obtain ⟨z_37, rfl, hz_37, rfl, f_37⟩ := hq9
  exact tz_iret (pc := 40) (z := (-1)) dX12_enter_40 rfl (Nat.le_of_ble_eq_true rfl) (Nat.le_of_ble_eq_true rfl) ⟨Nat.le_refl _, Nat.le_add_right _ _⟩ ⟨_, rfl, (by decide), ⟨rfl, (Eq.trans (congrFun (f_37 164 rfl) 8) rfl), (Eq.trans (f_37 183 rfl) rfl)⟩⟩

set_option maxHeartbeats 4000000 in
set_option maxRecDepth 100000 in
theorem m1_leave {l : Launch} {G : tb_G} (hl : l.stackTraces = false) (n : Nat) (I : tb_I) (F : tb_Fm I) (a : Int) (hr_a : -2147483648 ≤ a ∧ a < 2147483648)   : tz_Ok l G M_X12_leave 2 0 0 [.ref 164, zi a] n (zj I) (zqi (fun z J' => z = (-1) ∧ J' 164 8 = (0) ∧ J' 183 = zj I 183)) zN := by
  refine tz_Ok.of hl (by decide +kernel) rfl (tb_c1 rfl) (Nat.le_of_ble_eq_true rfl) ?_
  show tz_At l G M_X12_leave (tb_rm 2 0 0) none (tb_ZM G 0 0 (zQ n 0 (zqi (fun z J' => z = (-1) ∧ J' 164 8 = (0) ∧ J' 183 = zj I 183))) (zX n 0 zN)) 0 0 n (zj I) 0 [some (.ref 164), some (zi a), none, none] []
  refine tz_aload_n (pc := 0) dX12_leave_0 rfl rfl ?_
  refine tz_iconst (pc := 1) dX12_leave_1 ?_
  refine tz_pI (pc := 2) (kz := 8) dX12_leave_2 fl_X12_68 i_164_8 rfl rfl (by decide) ?_
  refine tz_aload_n (pc := 5) dX12_leave_5 rfl rfl ?_
  refine tz_iload_n (pc := 6) dX12_leave_6 rfl rfl ?_
  refine tz_cV (pc := 7) (zm1_isTerm hl n _ _ (by omega) (zjv (z := 0) (F.at (by decide) z_165_0) rfl (by decide))) vl_X12_376 dX12_leave_7 o_164 rfl rfl (Nat.le_of_ble_eq_true rfl) ⟨(Nat.le_of_ble_eq_true rfl), (Nat.le_of_ble_eq_true rfl)⟩ rfl rfl (Nat.le_of_ble_eq_true rfl) (Nat.le_of_ble_eq_true rfl) (fun r9 J_7 hq9 => ?_)
  obtain ⟨z_7, rfl, hz_7, rfl, rfl⟩ := hq9
  refine tz_if_eqT (pc := 10) (tgt := 21) (by decide) dX12_leave_10 (by decide) (by decide) ?_
  refine tz_iconst (pc := 21) dX12_leave_21 ?_
  refine tz_istore_n (pc := 22) (L2 := [_, _, _, _]) dX12_leave_22 rfl (by decide) rfl ?_
  refine tz_iload_n (pc := 23) dX12_leave_23 rfl rfl ?_
  refine tz_iconst (pc := 24) dX12_leave_24 ?_
  refine tz_icmp_neF (pc := 25) (tgt := 35) (by decide) dX12_leave_25 (by decide) (by decide) (by decide) ?_
  refine tz_aload_n (pc := 28) dX12_leave_28 rfl rfl ?_
  refine tz_iconst (pc := 29) dX12_leave_29 ?_
  refine tz_iconst (pc := 30) dX12_leave_30 ?_
  refine tz_cV (pc := 31) (zm_refuses hl n _ _ _ (by decide) (by decide) (by decide)) vl_X12_391 dX12_leave_31 o_164 rfl rfl (Nat.le_of_ble_eq_true rfl) ⟨(Nat.le_of_ble_eq_true rfl), (Nat.le_of_ble_eq_true rfl)⟩ rfl rfl (Nat.le_of_ble_eq_true rfl) (Nat.le_of_ble_eq_true rfl) (fun r9 J_31 hq9 => ?_)
  obtain ⟨z_31, rfl, hz_31, rfl, f_31⟩ := hq9
  exact tz_iret (pc := 34) (z := (-1)) dX12_leave_34 rfl (Nat.le_of_ble_eq_true rfl) (Nat.le_of_ble_eq_true rfl) ⟨Nat.le_refl _, Nat.le_add_right _ _⟩ ⟨_, rfl, (by decide), ⟨rfl, (Eq.trans (congrFun (f_31 164 rfl) 8) rfl), (Eq.trans (f_31 183 rfl) rfl)⟩⟩

set_option maxHeartbeats 4000000 in
set_option maxRecDepth 100000 in
theorem m1_make {l : Launch} {G : tb_G} (hl : l.stackTraces = false) (n : Nat) (I : tb_I) (F : tb_Fm I) (a : Int) (b : Int) (c : Int) (d : Int) (hr_a : -2147483648 ≤ a ∧ a < 2147483648) (hr_b : -2147483648 ≤ b ∧ b < 2147483648) (hr_c : -2147483648 ≤ c ∧ c < 2147483648) (hr_d : -2147483648 ≤ d ∧ d < 2147483648)   : tz_Ok l G M_X12_make 2 0 0 [.ref 164, zi a, zi b, zi c, zi d] n (zj I) (zqi (fun z J' => z = (-1) ∧ J' 164 8 = (0) ∧ J' 183 = zj I 183)) zN := by
  refine tz_Ok.of hl (by decide +kernel) rfl (tb_c1 rfl) (Nat.le_of_ble_eq_true rfl) ?_
  show tz_At l G M_X12_make (tb_rm 2 0 0) none (tb_ZM G 0 0 (zQ n 0 (zqi (fun z J' => z = (-1) ∧ J' 164 8 = (0) ∧ J' 183 = zj I 183))) (zX n 0 zN)) 0 0 n (zj I) 0 [some (.ref 164), some (zi a), some (zi b), some (zi c), some (zi d), none] []
  refine tz_aload_n (pc := 0) dX12_make_0 rfl rfl ?_
  refine tz_iconst (pc := 1) dX12_make_1 ?_
  refine tz_pI (pc := 2) (kz := 8) dX12_make_2 fl_X12_68 i_164_8 rfl rfl (by decide) ?_
  refine tz_aload_n (pc := 5) dX12_make_5 rfl rfl ?_
  refine tz_iload_n (pc := 6) dX12_make_6 rfl rfl ?_
  refine tz_cV (pc := 7) (zm1_isSymbol hl n _ _ (by omega) (zjv (z := 0) (F.at (by decide) z_164_9) rfl (by decide))) vl_X12_369 dX12_make_7 o_164 rfl rfl (Nat.le_of_ble_eq_true rfl) ⟨(Nat.le_of_ble_eq_true rfl), (Nat.le_of_ble_eq_true rfl)⟩ rfl rfl (Nat.le_of_ble_eq_true rfl) (Nat.le_of_ble_eq_true rfl) (fun r9 J_7 hq9 => ?_)
  obtain ⟨z_7, rfl, hz_7, rfl, rfl⟩ := hq9
  refine tz_if_eqT (pc := 10) (tgt := 22) (by decide) dX12_make_10 (by decide) (by decide) ?_
  refine tz_iconst (pc := 22) dX12_make_22 ?_
  refine tz_istore (pc := 23) (L2 := [_, _, _, _, _, _]) dX12_make_23 (by decide) rfl ?_
  refine tz_aload_n (pc := 25) dX12_make_25 rfl rfl ?_
  refine tz_iload_n (pc := 26) dX12_make_26 rfl rfl ?_
  refine tz_cV (pc := 27) (zm1_isSymbol hl n _ _ (by omega) (zjv (z := 0) (F.at (by decide) z_164_9) rfl (by decide))) vl_X12_369 dX12_make_27 o_164 rfl rfl (Nat.le_of_ble_eq_true rfl) ⟨(Nat.le_of_ble_eq_true rfl), (Nat.le_of_ble_eq_true rfl)⟩ rfl rfl (Nat.le_of_ble_eq_true rfl) (Nat.le_of_ble_eq_true rfl) (fun r9 J_27 hq9 => ?_)
  obtain ⟨z_27, rfl, hz_27, rfl, rfl⟩ := hq9
  refine tz_if_eqT (pc := 30) (tgt := 75) (by decide) dX12_make_30 (by decide) (by decide) ?_
  refine tz_aload_n (pc := 75) dX12_make_75 rfl rfl ?_
  refine tz_iconst (pc := 76) dX12_make_76 ?_
  refine tz_iconst (pc := 77) dX12_make_77 ?_
  refine tz_cV (pc := 78) (zm_refuses hl n _ _ _ (by decide) (by decide) (by decide)) vl_X12_391 dX12_make_78 o_164 rfl rfl (Nat.le_of_ble_eq_true rfl) ⟨(Nat.le_of_ble_eq_true rfl), (Nat.le_of_ble_eq_true rfl)⟩ rfl rfl (Nat.le_of_ble_eq_true rfl) (Nat.le_of_ble_eq_true rfl) (fun r9 J_78 hq9 => ?_)
  obtain ⟨z_78, rfl, hz_78, rfl, f_78⟩ := hq9
  exact tz_iret (pc := 81) (z := (-1)) dX12_make_81 rfl (Nat.le_of_ble_eq_true rfl) (Nat.le_of_ble_eq_true rfl) ⟨Nat.le_refl _, Nat.le_add_right _ _⟩ ⟨_, rfl, (by decide), ⟨rfl, (Eq.trans (congrFun (f_78 164 rfl) 8) rfl), (Eq.trans (f_78 183 rfl) rfl)⟩⟩

set_option maxHeartbeats 4000000 in
set_option maxRecDepth 100000 in
theorem m1_symbol {l : Launch} {G : tb_G} (hl : l.stackTraces = false) (n : Nat) (I : tb_I) (F : tb_Fm I) (a : Int) (b : Int) (hr_a : -2147483648 ≤ a ∧ a < 2147483648) (hr_b : -2147483648 ≤ b ∧ b < 2147483648)   : tz_Ok l G M_X12_symbol 2 0 0 [.ref 164, zi a, zi b] n (zj I) (zqi (fun z J' => z = (0) ∧ J' 164 8 = (1) ∧ J' 183 = zj I 183)) zN := by
  refine tz_Ok.of hl (by decide +kernel) rfl (tb_c1 rfl) (Nat.le_of_ble_eq_true rfl) ?_
  show tz_At l G M_X12_symbol (tb_rm 2 0 0) none (tb_ZM G 0 0 (zQ n 0 (zqi (fun z J' => z = (0) ∧ J' 164 8 = (1) ∧ J' 183 = zj I 183))) (zX n 0 zN)) 0 0 n (zj I) 0 [some (.ref 164), some (zi a), some (zi b)] []
  refine tz_aload_n (pc := 0) dX12_symbol_0 rfl rfl ?_
  refine tz_iconst (pc := 1) dX12_symbol_1 ?_
  refine tz_pI (pc := 2) (kz := 8) dX12_symbol_2 fl_X12_68 i_164_8 rfl rfl (by decide) ?_
  refine tz_aload_n (pc := 5) dX12_symbol_5 rfl rfl ?_
  refine tz_aload_n (pc := 6) dX12_symbol_6 rfl rfl ?_
  refine tz_iload_n (pc := 7) dX12_symbol_7 rfl rfl ?_
  refine tz_cV (pc := 8) (zm1_isSymbol hl n _ _ (by omega) (zjv (z := 0) (F.at (by decide) z_164_9) rfl (by decide))) vl_X12_369 dX12_symbol_8 o_164 rfl rfl (Nat.le_of_ble_eq_true rfl) ⟨(Nat.le_of_ble_eq_true rfl), (Nat.le_of_ble_eq_true rfl)⟩ rfl rfl (Nat.le_of_ble_eq_true rfl) (Nat.le_of_ble_eq_true rfl) (fun r9 J_8 hq9 => ?_)
  obtain ⟨z_8, rfl, hz_8, rfl, rfl⟩ := hq9
  refine tz_if_eqT (pc := 11) (tgt := 27) (by decide) dX12_symbol_11 (by decide) (by decide) ?_
  refine tz_iconst (pc := 27) dX12_symbol_27 ?_
  refine tz_iconst (pc := 28) dX12_symbol_28 ?_
  refine tz_cV (pc := 29) (zm_right0 hl n _ _ (by decide) rfl (by decide)) vl_X12_334 dX12_symbol_29 o_164 rfl rfl (Nat.le_of_ble_eq_true rfl) ⟨(Nat.le_of_ble_eq_true rfl), (Nat.le_of_ble_eq_true rfl)⟩ rfl rfl (Nat.le_of_ble_eq_true rfl) (Nat.le_of_ble_eq_true rfl) (fun r9 J_29 hq9 => ?_)
  obtain ⟨z_29, rfl, hz_29, rfl, rfl⟩ := hq9
  refine tz_if_neF (pc := 32) (tgt := 37) (by decide) dX12_symbol_32 (by decide) (by decide) ?_
  refine tz_iconst (pc := 35) dX12_symbol_35 ?_
  exact tz_iret (pc := 36) (z := 0) dX12_symbol_36 rfl (Nat.le_of_ble_eq_true rfl) (Nat.le_of_ble_eq_true rfl) ⟨Nat.le_refl _, Nat.le_add_right _ _⟩ ⟨_, rfl, (by decide), ⟨rfl, rfl, rfl⟩⟩

set_option maxHeartbeats 4000000 in
set_option maxRecDepth 100000 in
theorem m1_term {l : Launch} {G : tb_G} (hl : l.stackTraces = false) (n : Nat) (I : tb_I) (F : tb_Fm I) (a : Int) (b : Int) (hr_a : -2147483648 ≤ a ∧ a < 2147483648) (hr_b : -2147483648 ≤ b ∧ b < 2147483648)   : tz_Ok l G M_X12_term 3 0 0 [.ref 164, zi a, zi b] n (zj I) (zqi (fun z J' => z = (0) ∧ J' 164 8 = (1) ∧ J' 183 = zj I 183)) zN := by
  refine tz_Ok.of hl (by decide +kernel) rfl (tb_c1 rfl) (Nat.le_of_ble_eq_true rfl) ?_
  show tz_At l G M_X12_term (tb_rm 3 0 0) none (tb_ZM G 0 0 (zQ n 0 (zqi (fun z J' => z = (0) ∧ J' 164 8 = (1) ∧ J' 183 = zj I 183))) (zX n 0 zN)) 0 0 n (zj I) 0 [some (.ref 164), some (zi a), some (zi b)] []
  refine tz_aload_n (pc := 0) dX12_term_0 rfl rfl ?_
  refine tz_iconst (pc := 1) dX12_term_1 ?_
  refine tz_pI (pc := 2) (kz := 8) dX12_term_2 fl_X12_68 i_164_8 rfl rfl (by decide) ?_
  refine tz_aload_n (pc := 5) dX12_term_5 rfl rfl ?_
  refine tz_iload_n (pc := 6) dX12_term_6 rfl rfl ?_
  refine tz_cV (pc := 7) (zm1_isTermNow hl n _ _ (by omega) (zjv (z := 0) (F.at (by decide) z_165_0) rfl (by decide)) rfl) vl_X12_379 dX12_term_7 o_164 rfl rfl (Nat.le_of_ble_eq_true rfl) ⟨(Nat.le_of_ble_eq_true rfl), (Nat.le_of_ble_eq_true rfl)⟩ rfl rfl (Nat.le_of_ble_eq_true rfl) (Nat.le_of_ble_eq_true rfl) (fun r9 J_7 hq9 => ?_)
  obtain ⟨z_7, rfl, hz_7, rfl, rfl⟩ := hq9
  refine tz_if_eqT (pc := 10) (tgt := 28) (by decide) dX12_term_10 (by decide) (by decide) ?_
  refine tz_iconst (pc := 28) dX12_term_28 ?_
  exact tz_iret (pc := 29) (z := 0) dX12_term_29 rfl (Nat.le_of_ble_eq_true rfl) (Nat.le_of_ble_eq_true rfl) ⟨Nat.le_refl _, Nat.le_add_right _ _⟩ ⟨_, rfl, (by decide), ⟨rfl, rfl, rfl⟩⟩

set_option maxHeartbeats 4000000 in
set_option maxRecDepth 100000 in
theorem m1_argument {l : Launch} {G : tb_G} (hl : l.stackTraces = false) (n : Nat) (I : tb_I) (F : tb_Fm I) (a : Int) (b : Int) (hr_a : -2147483648 ≤ a ∧ a < 2147483648) (hr_b : -2147483648 ≤ b ∧ b < 2147483648)   : tz_Ok l G M_X12_argument 3 0 0 [.ref 164, zi a, zi b] n (zj I) (zqi (fun z J' => z = (0) ∧ J' 164 8 = (1) ∧ J' 183 = zj I 183)) zN := by
  refine tz_Ok.of hl (by decide +kernel) rfl (tb_c1 rfl) (Nat.le_of_ble_eq_true rfl) ?_
  show tz_At l G M_X12_argument (tb_rm 3 0 0) none (tb_ZM G 0 0 (zQ n 0 (zqi (fun z J' => z = (0) ∧ J' 164 8 = (1) ∧ J' 183 = zj I 183))) (zX n 0 zN)) 0 0 n (zj I) 0 [some (.ref 164), some (zi a), some (zi b)] []
  refine tz_aload_n (pc := 0) dX12_argument_0 rfl rfl ?_
  refine tz_iconst (pc := 1) dX12_argument_1 ?_
  refine tz_pI (pc := 2) (kz := 8) dX12_argument_2 fl_X12_68 i_164_8 rfl rfl (by decide) ?_
  refine tz_aload_n (pc := 5) dX12_argument_5 rfl rfl ?_
  refine tz_iload_n (pc := 6) dX12_argument_6 rfl rfl ?_
  refine tz_cV (pc := 7) (zm1_isTermNow hl n _ _ (by omega) (zjv (z := 0) (F.at (by decide) z_165_0) rfl (by decide)) rfl) vl_X12_379 dX12_argument_7 o_164 rfl rfl (Nat.le_of_ble_eq_true rfl) ⟨(Nat.le_of_ble_eq_true rfl), (Nat.le_of_ble_eq_true rfl)⟩ rfl rfl (Nat.le_of_ble_eq_true rfl) (Nat.le_of_ble_eq_true rfl) (fun r9 J_7 hq9 => ?_)
  obtain ⟨z_7, rfl, hz_7, rfl, rfl⟩ := hq9
  refine tz_if_eqT (pc := 10) (tgt := 42) (by decide) dX12_argument_10 (by decide) (by decide) ?_
  refine tz_iconst (pc := 42) dX12_argument_42 ?_
  exact tz_iret (pc := 43) (z := 0) dX12_argument_43 rfl (Nat.le_of_ble_eq_true rfl) (Nat.le_of_ble_eq_true rfl) ⟨Nat.le_refl _, Nat.le_add_right _ _⟩ ⟨_, rfl, (by decide), ⟨rfl, rfl, rfl⟩⟩

set_option maxHeartbeats 4000000 in
set_option maxRecDepth 100000 in
theorem m1_place {l : Launch} {G : tb_G} (hl : l.stackTraces = false) (n : Nat) (I : tb_I) (F : tb_Fm I) (a : Int) (b : Int) (hr_a : -2147483648 ≤ a ∧ a < 2147483648) (hr_b : -2147483648 ≤ b ∧ b < 2147483648)   : tz_Ok l G M_X12_place 3 0 0 [.ref 164, zi a, zi b] n (zj I) (zqi (fun z J' => z = (0) ∧ J' 164 8 = (1) ∧ J' 183 = zj I 183)) zN := by
  refine tz_Ok.of hl (by decide +kernel) rfl (tb_c1 rfl) (Nat.le_of_ble_eq_true rfl) ?_
  show tz_At l G M_X12_place (tb_rm 3 0 0) none (tb_ZM G 0 0 (zQ n 0 (zqi (fun z J' => z = (0) ∧ J' 164 8 = (1) ∧ J' 183 = zj I 183))) (zX n 0 zN)) 0 0 n (zj I) 0 [some (.ref 164), some (zi a), some (zi b), none] []
  refine tz_aload_n (pc := 0) dX12_place_0 rfl rfl ?_
  refine tz_iconst (pc := 1) dX12_place_1 ?_
  refine tz_pI (pc := 2) (kz := 8) dX12_place_2 fl_X12_68 i_164_8 rfl rfl (by decide) ?_
  refine tz_aload_n (pc := 5) dX12_place_5 rfl rfl ?_
  refine tz_iload_n (pc := 6) dX12_place_6 rfl rfl ?_
  refine tz_cV (pc := 7) (zm1_isTermNow hl n _ _ (by omega) (zjv (z := 0) (F.at (by decide) z_165_0) rfl (by decide)) rfl) vl_X12_379 dX12_place_7 o_164 rfl rfl (Nat.le_of_ble_eq_true rfl) ⟨(Nat.le_of_ble_eq_true rfl), (Nat.le_of_ble_eq_true rfl)⟩ rfl rfl (Nat.le_of_ble_eq_true rfl) (Nat.le_of_ble_eq_true rfl) (fun r9 J_7 hq9 => ?_)
  obtain ⟨z_7, rfl, hz_7, rfl, rfl⟩ := hq9
  refine tz_if_neF (pc := 10) (tgt := 15) (by decide) dX12_place_10 (by decide) (by decide) ?_
  refine tz_iconst (pc := 13) dX12_place_13 ?_
  exact tz_iret (pc := 14) (z := 0) dX12_place_14 rfl (Nat.le_of_ble_eq_true rfl) (Nat.le_of_ble_eq_true rfl) ⟨Nat.le_refl _, Nat.le_add_right _ _⟩ ⟨_, rfl, (by decide), ⟨rfl, rfl, rfl⟩⟩

set_option maxHeartbeats 4000000 in
set_option maxRecDepth 100000 in
theorem m1_order {l : Launch} {G : tb_G} (hl : l.stackTraces = false) (n : Nat) (I : tb_I) (F : tb_Fm I) (a : Int) (b : Int) (hr_a : -2147483648 ≤ a ∧ a < 2147483648) (hr_b : -2147483648 ≤ b ∧ b < 2147483648)   : tz_Ok l G M_X12_order 3 0 0 [.ref 164, zi a, zi b] n (zj I) (zqi (fun z J' => z = (0) ∧ J' 164 8 = (1) ∧ J' 183 = zj I 183)) zN := by
  refine tz_Ok.of hl (by decide +kernel) rfl (tb_c1 rfl) (Nat.le_of_ble_eq_true rfl) ?_
  show tz_At l G M_X12_order (tb_rm 3 0 0) none (tb_ZM G 0 0 (zQ n 0 (zqi (fun z J' => z = (0) ∧ J' 164 8 = (1) ∧ J' 183 = zj I 183))) (zX n 0 zN)) 0 0 n (zj I) 0 [some (.ref 164), some (zi a), some (zi b)] []
  refine tz_aload_n (pc := 0) dX12_order_0 rfl rfl ?_
  refine tz_iconst (pc := 1) dX12_order_1 ?_
  refine tz_pI (pc := 2) (kz := 8) dX12_order_2 fl_X12_68 i_164_8 rfl rfl (by decide) ?_
  refine tz_aload_n (pc := 5) dX12_order_5 rfl rfl ?_
  refine tz_iload_n (pc := 6) dX12_order_6 rfl rfl ?_
  refine tz_cV (pc := 7) (zm1_isTermNow hl n _ _ (by omega) (zjv (z := 0) (F.at (by decide) z_165_0) rfl (by decide)) rfl) vl_X12_379 dX12_order_7 o_164 rfl rfl (Nat.le_of_ble_eq_true rfl) ⟨(Nat.le_of_ble_eq_true rfl), (Nat.le_of_ble_eq_true rfl)⟩ rfl rfl (Nat.le_of_ble_eq_true rfl) (Nat.le_of_ble_eq_true rfl) (fun r9 J_7 hq9 => ?_)
  obtain ⟨z_7, rfl, hz_7, rfl, rfl⟩ := hq9
  refine tz_if_eqT (pc := 10) (tgt := 21) (by decide) dX12_order_10 (by decide) (by decide) ?_
  refine tz_iconst (pc := 21) dX12_order_21 ?_
  exact tz_iret (pc := 22) (z := 0) dX12_order_22 rfl (Nat.le_of_ble_eq_true rfl) (Nat.le_of_ble_eq_true rfl) ⟨Nat.le_refl _, Nat.le_add_right _ _⟩ ⟨_, rfl, (by decide), ⟨rfl, rfl, rfl⟩⟩

set_option maxHeartbeats 4000000 in
set_option maxRecDepth 100000 in
theorem m1_find {l : Launch} {G : tb_G} (hl : l.stackTraces = false) (n : Nat) (I : tb_I) (F : tb_Fm I) (a : Int) (b : Int) (hr_a : -2147483648 ≤ a ∧ a < 2147483648) (hr_b : -2147483648 ≤ b ∧ b < 2147483648)   : tz_Ok l G M_X12_find 3 0 0 [.ref 164, zi a, zi b] n (zj I) (zqi (fun z J' => z = (0) ∧ J' 164 8 = (1) ∧ J' 183 = zj I 183)) zN := by
  refine tz_Ok.of hl (by decide +kernel) rfl (tb_c1 rfl) (Nat.le_of_ble_eq_true rfl) ?_
  show tz_At l G M_X12_find (tb_rm 3 0 0) none (tb_ZM G 0 0 (zQ n 0 (zqi (fun z J' => z = (0) ∧ J' 164 8 = (1) ∧ J' 183 = zj I 183))) (zX n 0 zN)) 0 0 n (zj I) 0 [some (.ref 164), some (zi a), some (zi b), none, none] []
  refine tz_aload_n (pc := 0) dX12_find_0 rfl rfl ?_
  refine tz_iconst (pc := 1) dX12_find_1 ?_
  refine tz_pI (pc := 2) (kz := 8) dX12_find_2 fl_X12_68 i_164_8 rfl rfl (by decide) ?_
  refine tz_aload_n (pc := 5) dX12_find_5 rfl rfl ?_
  refine tz_iload_n (pc := 6) dX12_find_6 rfl rfl ?_
  refine tz_cV (pc := 7) (zm1_isTermNow hl n _ _ (by omega) (zjv (z := 0) (F.at (by decide) z_165_0) rfl (by decide)) rfl) vl_X12_379 dX12_find_7 o_164 rfl rfl (Nat.le_of_ble_eq_true rfl) ⟨(Nat.le_of_ble_eq_true rfl), (Nat.le_of_ble_eq_true rfl)⟩ rfl rfl (Nat.le_of_ble_eq_true rfl) (Nat.le_of_ble_eq_true rfl) (fun r9 J_7 hq9 => ?_)
  obtain ⟨z_7, rfl, hz_7, rfl, rfl⟩ := hq9
  refine tz_if_eqT (pc := 10) (tgt := 27) (by decide) dX12_find_10 (by decide) (by decide) ?_
  refine tz_iconst (pc := 27) dX12_find_27 ?_
  exact tz_iret (pc := 28) (z := 0) dX12_find_28 rfl (Nat.le_of_ble_eq_true rfl) (Nat.le_of_ble_eq_true rfl) ⟨Nat.le_refl _, Nat.le_add_right _ _⟩ ⟨_, rfl, (by decide), ⟨rfl, rfl, rfl⟩⟩

set_option maxHeartbeats 4000000 in
set_option maxRecDepth 100000 in
theorem m1_fault {l : Launch} {G : tb_G} (hl : l.stackTraces = false) (n : Nat) (I : tb_I) (F : tb_Fm I)     : tz_Ok l G M_X12_fault 0 0 0 [.ref 164] n (zj I) (zqi (fun z J' => z = (-1) ∧ J' 164 8 = (0) ∧ J' 183 = zj I 183)) zN := by
  refine tz_Ok.of hl (by decide +kernel) rfl (tb_c1 rfl) (Nat.le_of_ble_eq_true rfl) ?_
  show tz_At l G M_X12_fault (tb_rm 0 0 0) none (tb_ZM G 0 0 (zQ n 0 (zqi (fun z J' => z = (-1) ∧ J' 164 8 = (0) ∧ J' 183 = zj I 183))) (zX n 0 zN)) 0 0 n (zj I) 0 [some (.ref 164)] []
  refine tz_aload_n (pc := 0) dX12_fault_0 rfl rfl ?_
  refine tz_iconst (pc := 1) dX12_fault_1 ?_
  refine tz_pI (pc := 2) (kz := 8) dX12_fault_2 fl_X12_68 i_164_8 rfl rfl (by decide) ?_
  refine tz_aload_n (pc := 5) dX12_fault_5 rfl rfl ?_
  refine tz_fI (pc := 6) (kz := 20) (v := (-1)) dX12_fault_6 fl_X12_37 i_164_20 rfl (zjv (z := (-1)) (F.at (by decide) z_164_20) rfl (by decide)) (fun _ => ?_)
  exact tz_iret (pc := 9) (z := (-1)) dX12_fault_9 rfl (Nat.le_of_ble_eq_true rfl) (Nat.le_of_ble_eq_true rfl) ⟨Nat.le_refl _, Nat.le_add_right _ _⟩ ⟨_, rfl, (by decide), ⟨rfl, rfl, rfl⟩⟩

set_option maxHeartbeats 4000000 in
set_option maxRecDepth 100000 in
theorem m1_undo {l : Launch} {G : tb_G} (hl : l.stackTraces = false) (n : Nat) (I : tb_I) (F : tb_Fm I)     : tz_Ok l G M_X12_undo 0 0 0 [.ref 164] n (zj I) (zqi (fun z J' => z = (-1) ∧ J' 164 8 = (0) ∧ J' 183 = zj I 183)) zN := by
  refine tz_Ok.of hl (by decide +kernel) rfl (tb_c1 rfl) (Nat.le_of_ble_eq_true rfl) ?_
  show tz_At l G M_X12_undo (tb_rm 0 0 0) none (tb_ZM G 0 0 (zQ n 0 (zqi (fun z J' => z = (-1) ∧ J' 164 8 = (0) ∧ J' 183 = zj I 183))) (zX n 0 zN)) 0 0 n (zj I) 0 [some (.ref 164)] []
  refine tz_aload_n (pc := 0) dX12_undo_0 rfl rfl ?_
  refine tz_iconst (pc := 1) dX12_undo_1 ?_
  refine tz_pI (pc := 2) (kz := 8) dX12_undo_2 fl_X12_68 i_164_8 rfl rfl (by decide) ?_
  refine tz_aload_n (pc := 5) dX12_undo_5 rfl rfl ?_
  refine tz_fI (pc := 6) (kz := 10) (v := 0) dX12_undo_6 fl_X12_356 i_164_10 rfl (zjv (z := 0) (F.at (by decide) z_164_10) rfl (by decide)) (fun _ => ?_)
  refine tz_if_neF (pc := 9) (tgt := 14) (by decide) dX12_undo_9 (by decide) (by decide) ?_
  refine tz_iconst (pc := 12) dX12_undo_12 ?_
  exact tz_iret (pc := 13) (z := (-1)) dX12_undo_13 rfl (Nat.le_of_ble_eq_true rfl) (Nat.le_of_ble_eq_true rfl) ⟨Nat.le_refl _, Nat.le_add_right _ _⟩ ⟨_, rfl, (by decide), ⟨rfl, rfl, rfl⟩⟩

set_option maxHeartbeats 4000000 in
set_option maxRecDepth 100000 in
theorem m1_restore {l : Launch} {G : tb_G} (hl : l.stackTraces = false) (n : Nat) (I : tb_I) (F : tb_Fm I)     : tz_Ok l G M_X12_restore 0 0 0 [.ref 164] n (zj I) (zqi (fun z J' => z = (0) ∧ J' 164 8 = (0) ∧ J' 183 = zj I 183)) zN := by
  refine tz_Ok.of hl (by decide +kernel) rfl (tb_c1 rfl) (Nat.le_of_ble_eq_true rfl) ?_
  show tz_At l G M_X12_restore (tb_rm 0 0 0) none (tb_ZM G 0 0 (zQ n 0 (zqi (fun z J' => z = (0) ∧ J' 164 8 = (0) ∧ J' 183 = zj I 183))) (zX n 0 zN)) 0 0 n (zj I) 0 [some (.ref 164), none] []
  refine tz_aload_n (pc := 0) dX12_restore_0 rfl rfl ?_
  refine tz_iconst (pc := 1) dX12_restore_1 ?_
  refine tz_pI (pc := 2) (kz := 8) dX12_restore_2 fl_X12_68 i_164_8 rfl rfl (by decide) ?_
  refine tz_aload_n (pc := 5) dX12_restore_5 rfl rfl ?_
  refine tz_fI (pc := 6) (kz := 14) (v := 0) dX12_restore_6 fl_X12_350 i_164_14 rfl (zjv (z := 0) (F.at (by decide) z_164_14) rfl (by decide)) (fun _ => ?_)
  refine tz_if_neF (pc := 9) (tgt := 14) (by decide) dX12_restore_9 (by decide) (by decide) ?_
  refine tz_iconst (pc := 12) dX12_restore_12 ?_
  exact tz_zret (pc := 13) (z := 0) dX12_restore_13 rfl (Or.inl rfl) (Nat.le_of_ble_eq_true rfl) (Nat.le_of_ble_eq_true rfl) ⟨Nat.le_refl _, Nat.le_add_right _ _⟩ ⟨_, rfl, (by decide), ⟨rfl, rfl, rfl⟩⟩

set_option maxHeartbeats 4000000 in
set_option maxRecDepth 100000 in
theorem m1_rule {l : Launch} {G : tb_G} (hl : l.stackTraces = false) (n : Nat) (I : tb_I) (F : tb_Fm I) (a : Int) (b : Int) (hr_a : -2147483648 ≤ a ∧ a < 2147483648) (hr_b : -2147483648 ≤ b ∧ b < 2147483648)   : tz_Ok l G M_X12_rule 1 0 0 [.ref 164, zi a, zi b] n (zj I) (zqi (fun z J' => z = (0) ∧ J' 164 8 = (1) ∧ J' 183 = zj I 183)) zN := by
  refine tz_Ok.of hl (by decide +kernel) rfl (tb_c1 rfl) (Nat.le_of_ble_eq_true rfl) ?_
  show tz_At l G M_X12_rule (tb_rm 1 0 0) none (tb_ZM G 0 0 (zQ n 0 (zqi (fun z J' => z = (0) ∧ J' 164 8 = (1) ∧ J' 183 = zj I 183))) (zX n 0 zN)) 0 0 n (zj I) 0 [some (.ref 164), some (zi a), some (zi b)] []
  refine tz_aload_n (pc := 0) dX12_rule_0 rfl rfl ?_
  refine tz_iconst (pc := 1) dX12_rule_1 ?_
  refine tz_pI (pc := 2) (kz := 8) dX12_rule_2 fl_X12_68 i_164_8 rfl rfl (by decide) ?_
  refine tz_aload_n (pc := 5) dX12_rule_5 rfl rfl ?_
  refine tz_iload_n (pc := 6) dX12_rule_6 rfl rfl ?_
  refine tz_iconst (pc := 7) dX12_rule_7 ?_
  refine tz_aload_n (pc := 8) dX12_rule_8 rfl rfl ?_
  refine tz_fR (pc := 9) dX12_rule_9 fl_X12_9 r_164_0 ?_
  refine tz_bipush (pc := 12) dX12_rule_12 (by decide) ?_
  refine tz_aL (pc := 14) (z := 9) (v := 0) dX12_rule_14 a_165 rfl (by decide) (zjv (z := 0) (F.at (by decide) z_165_9) rfl (by decide)) (fun _ => ?_)
  refine tz_iconst (pc := 15) dX12_rule_15 ?_
  refine tz_isub (pc := 16) (v := -1) dX12_rule_16 (by decide) ?_
  refine tz_cS (pc := 17) (zm_within hl n _ _ _ _ (by omega) (by decide) (by decide)) sl_X12_283 dX12_rule_17 rfl rfl (Nat.le_of_ble_eq_true rfl) ⟨(Nat.le_of_ble_eq_true rfl), (Nat.le_of_ble_eq_true rfl)⟩ rfl rfl (Nat.le_of_ble_eq_true rfl) (Nat.le_of_ble_eq_true rfl) (fun r9 J_17 hq9 => ?_)
  obtain ⟨z_17, rfl, hz_17, rfl, hv_17⟩ := hq9
  obtain rfl : 0 = z_17 := by rw [← hv_17, if_neg (by omega)]
  refine tz_if_eqT (pc := 20) (tgt := 36) (by decide) dX12_rule_20 (by decide) (by decide) ?_
  refine tz_iconst (pc := 36) dX12_rule_36 ?_
  refine tz_iconst (pc := 37) dX12_rule_37 ?_
  refine tz_cV (pc := 38) (zm_right0 hl n _ _ (by decide) rfl (by decide)) vl_X12_334 dX12_rule_38 o_164 rfl rfl (Nat.le_of_ble_eq_true rfl) ⟨(Nat.le_of_ble_eq_true rfl), (Nat.le_of_ble_eq_true rfl)⟩ rfl rfl (Nat.le_of_ble_eq_true rfl) (Nat.le_of_ble_eq_true rfl) (fun r9 J_38 hq9 => ?_)
  obtain ⟨z_38, rfl, hz_38, rfl, rfl⟩ := hq9
  refine tz_if_eqT (pc := 41) (tgt := 60) (by decide) dX12_rule_41 (by decide) (by decide) ?_
  refine tz_iconst (pc := 60) dX12_rule_60 ?_
  exact tz_iret (pc := 61) (z := 0) dX12_rule_61 rfl (Nat.le_of_ble_eq_true rfl) (Nat.le_of_ble_eq_true rfl) ⟨Nat.le_refl _, Nat.le_add_right _ _⟩ ⟨_, rfl, (by decide), ⟨rfl, rfl, rfl⟩⟩

set_option maxHeartbeats 4000000 in
set_option maxRecDepth 100000 in
theorem m1_memo {l : Launch} {G : tb_G} (hl : l.stackTraces = false) (n : Nat) (I : tb_I) (F : tb_Fm I) (a : Int) (b : Int) (hr_a : -2147483648 ≤ a ∧ a < 2147483648) (hr_b : -2147483648 ≤ b ∧ b < 2147483648)   : tz_Ok l G M_X12_memo 1 0 0 [.ref 164, zi a, zi b] n (zj I) (zqi (fun z J' => z = (0) ∧ J' 164 8 = (1) ∧ J' 183 = zj I 183)) zN := by
  refine tz_Ok.of hl (by decide +kernel) rfl (tb_c1 rfl) (Nat.le_of_ble_eq_true rfl) ?_
  show tz_At l G M_X12_memo (tb_rm 1 0 0) none (tb_ZM G 0 0 (zQ n 0 (zqi (fun z J' => z = (0) ∧ J' 164 8 = (1) ∧ J' 183 = zj I 183))) (zX n 0 zN)) 0 0 n (zj I) 0 [some (.ref 164), some (zi a), some (zi b)] []
  refine tz_aload_n (pc := 0) dX12_memo_0 rfl rfl ?_
  refine tz_iconst (pc := 1) dX12_memo_1 ?_
  refine tz_pI (pc := 2) (kz := 8) dX12_memo_2 fl_X12_68 i_164_8 rfl rfl (by decide) ?_
  refine tz_aload_n (pc := 5) dX12_memo_5 rfl rfl ?_
  refine tz_iload_n (pc := 6) dX12_memo_6 rfl rfl ?_
  refine tz_iconst (pc := 7) dX12_memo_7 ?_
  refine tz_aload_n (pc := 8) dX12_memo_8 rfl rfl ?_
  refine tz_fR (pc := 9) dX12_memo_9 fl_X12_9 r_164_0 ?_
  refine tz_bipush (pc := 12) dX12_memo_12 (by decide) ?_
  refine tz_aL (pc := 14) (z := 40) (v := 0) dX12_memo_14 a_165 rfl (by decide) (zjv (z := 0) (F.at (by decide) z_165_40) rfl (by decide)) (fun _ => ?_)
  refine tz_iconst (pc := 15) dX12_memo_15 ?_
  refine tz_isub (pc := 16) (v := -1) dX12_memo_16 (by decide) ?_
  refine tz_cS (pc := 17) (zm_within hl n _ _ _ _ (by omega) (by decide) (by decide)) sl_X12_283 dX12_memo_17 rfl rfl (Nat.le_of_ble_eq_true rfl) ⟨(Nat.le_of_ble_eq_true rfl), (Nat.le_of_ble_eq_true rfl)⟩ rfl rfl (Nat.le_of_ble_eq_true rfl) (Nat.le_of_ble_eq_true rfl) (fun r9 J_17 hq9 => ?_)
  obtain ⟨z_17, rfl, hz_17, rfl, hv_17⟩ := hq9
  obtain rfl : 0 = z_17 := by rw [← hv_17, if_neg (by omega)]
  refine tz_if_eqT (pc := 20) (tgt := 36) (by decide) dX12_memo_20 (by decide) (by decide) ?_
  refine tz_iconst (pc := 36) dX12_memo_36 ?_
  refine tz_iconst (pc := 37) dX12_memo_37 ?_
  refine tz_cV (pc := 38) (zm_right0 hl n _ _ (by decide) rfl (by decide)) vl_X12_334 dX12_memo_38 o_164 rfl rfl (Nat.le_of_ble_eq_true rfl) ⟨(Nat.le_of_ble_eq_true rfl), (Nat.le_of_ble_eq_true rfl)⟩ rfl rfl (Nat.le_of_ble_eq_true rfl) (Nat.le_of_ble_eq_true rfl) (fun r9 J_38 hq9 => ?_)
  obtain ⟨z_38, rfl, hz_38, rfl, rfl⟩ := hq9
  refine tz_if_eqT (pc := 41) (tgt := 60) (by decide) dX12_memo_41 (by decide) (by decide) ?_
  refine tz_iconst (pc := 60) dX12_memo_60 ?_
  exact tz_iret (pc := 61) (z := 0) dX12_memo_61 rfl (Nat.le_of_ble_eq_true rfl) (Nat.le_of_ble_eq_true rfl) ⟨Nat.le_refl _, Nat.le_add_right _ _⟩ ⟨_, rfl, (by decide), ⟨rfl, rfl, rfl⟩⟩

set_option maxHeartbeats 4000000 in
set_option maxRecDepth 100000 in
theorem m1_entry {l : Launch} {G : tb_G} (hl : l.stackTraces = false) (n : Nat) (I : tb_I) (F : tb_Fm I) (a : Int) (hr_a : -2147483648 ≤ a ∧ a < 2147483648)   : tz_Ok l G M_X12_entry 1 0 0 [.ref 164, zi a] n (zj I) (zqi (fun z J' => z = (0) ∧ J' 164 8 = (1) ∧ J' 183 = zj I 183)) zN := by
  refine tz_Ok.of hl (by decide +kernel) rfl (tb_c1 rfl) (Nat.le_of_ble_eq_true rfl) ?_
  show tz_At l G M_X12_entry (tb_rm 1 0 0) none (tb_ZM G 0 0 (zQ n 0 (zqi (fun z J' => z = (0) ∧ J' 164 8 = (1) ∧ J' 183 = zj I 183))) (zX n 0 zN)) 0 0 n (zj I) 0 [some (.ref 164), some (zi a)] []
  refine tz_aload_n (pc := 0) dX12_entry_0 rfl rfl ?_
  refine tz_iconst (pc := 1) dX12_entry_1 ?_
  refine tz_pI (pc := 2) (kz := 8) dX12_entry_2 fl_X12_68 i_164_8 rfl rfl (by decide) ?_
  refine tz_aload_n (pc := 5) dX12_entry_5 rfl rfl ?_
  refine tz_iload_n (pc := 6) dX12_entry_6 rfl rfl ?_
  refine tz_iconst (pc := 7) dX12_entry_7 ?_
  refine tz_aload_n (pc := 8) dX12_entry_8 rfl rfl ?_
  refine tz_fR (pc := 9) dX12_entry_9 fl_X12_9 r_164_0 ?_
  refine tz_bipush (pc := 12) dX12_entry_12 (by decide) ?_
  refine tz_aL (pc := 14) (z := 26) (v := 0) dX12_entry_14 a_165 rfl (by decide) (zjv (z := 0) (F.at (by decide) z_165_26) rfl (by decide)) (fun _ => ?_)
  refine tz_iconst (pc := 15) dX12_entry_15 ?_
  refine tz_isub (pc := 16) (v := -1) dX12_entry_16 (by decide) ?_
  refine tz_cS (pc := 17) (zm_within hl n _ _ _ _ (by omega) (by decide) (by decide)) sl_X12_283 dX12_entry_17 rfl rfl (Nat.le_of_ble_eq_true rfl) ⟨(Nat.le_of_ble_eq_true rfl), (Nat.le_of_ble_eq_true rfl)⟩ rfl rfl (Nat.le_of_ble_eq_true rfl) (Nat.le_of_ble_eq_true rfl) (fun r9 J_17 hq9 => ?_)
  obtain ⟨z_17, rfl, hz_17, rfl, hv_17⟩ := hq9
  obtain rfl : 0 = z_17 := by rw [← hv_17, if_neg (by omega)]
  refine tz_iconst (pc := 20) dX12_entry_20 ?_
  refine tz_cV (pc := 21) (zm_right0 hl n _ _ (by decide) rfl (by decide)) vl_X12_334 dX12_entry_21 o_164 rfl rfl (Nat.le_of_ble_eq_true rfl) ⟨(Nat.le_of_ble_eq_true rfl), (Nat.le_of_ble_eq_true rfl)⟩ rfl rfl (Nat.le_of_ble_eq_true rfl) (Nat.le_of_ble_eq_true rfl) (fun r9 J_21 hq9 => ?_)
  obtain ⟨z_21, rfl, hz_21, rfl, rfl⟩ := hq9
  refine tz_if_eqT (pc := 24) (tgt := 39) (by decide) dX12_entry_24 (by decide) (by decide) ?_
  refine tz_iconst (pc := 39) dX12_entry_39 ?_
  exact tz_iret (pc := 40) (z := 0) dX12_entry_40 rfl (Nat.le_of_ble_eq_true rfl) (Nat.le_of_ble_eq_true rfl) ⟨Nat.le_refl _, Nat.le_add_right _ _⟩ ⟨_, rfl, (by decide), ⟨rfl, rfl, rfl⟩⟩

set_option maxHeartbeats 4000000 in
set_option maxRecDepth 100000 in
theorem m1_feed {l : Launch} {G : tb_G} (hl : l.stackTraces = false) (n : Nat) (I : tb_I) (F : tb_Fm I) (a : Int) (b : Int) (c : Int) (d : Int) (e : Int) (hr_a : -2147483648 ≤ a ∧ a < 2147483648) (hr_b : -2147483648 ≤ b ∧ b < 2147483648) (hr_c : -2147483648 ≤ c ∧ c < 2147483648) (hr_d : -2147483648 ≤ d ∧ d < 2147483648) (hr_e : -2147483648 ≤ e ∧ e < 2147483648)   : tz_Ok l G M_X12_feed 0 0 0 [.ref 164, zi a, zi b, zi c, zi d, zi e] n (zj I) (zqi (fun z J' => z = (20) ∧ J' 164 8 = (0) ∧ J' 183 = zj I 183)) zN := by
  refine tz_Ok.of hl (by decide +kernel) rfl (tb_c1 rfl) (Nat.le_of_ble_eq_true rfl) ?_
  show tz_At l G M_X12_feed (tb_rm 0 0 0) none (tb_ZM G 0 0 (zQ n 0 (zqi (fun z J' => z = (20) ∧ J' 164 8 = (0) ∧ J' 183 = zj I 183))) (zX n 0 zN)) 0 0 n (zj I) 0 [some (.ref 164), some (zi a), some (zi b), some (zi c), some (zi d), some (zi e), none, none] []
  refine tz_aload_n (pc := 0) dX12_feed_0 rfl rfl ?_
  refine tz_iconst (pc := 1) dX12_feed_1 ?_
  refine tz_pI (pc := 2) (kz := 8) dX12_feed_2 fl_X12_68 i_164_8 rfl rfl (by decide) ?_
  refine tz_aload_n (pc := 5) dX12_feed_5 rfl rfl ?_
  refine tz_fI (pc := 6) (kz := 19) (v := 0) dX12_feed_6 fl_X12_328 i_164_19 rfl (zjv (z := 0) (F.at (by decide) z_164_19) rfl (by decide)) (fun _ => ?_)
  refine tz_bipush (pc := 9) dX12_feed_9 (by decide) ?_
  refine tz_iadd (pc := 11) (v := 20) dX12_feed_11 (by decide) ?_
  refine tz_sipush (pc := 12) dX12_feed_12 (by decide) ?_
  refine tz_icmp_leT (pc := 15) (tgt := 20) (by decide) dX12_feed_15 (by decide) (by decide) (by decide) ?_
  refine tz_iconst (pc := 20) dX12_feed_20 ?_
  refine tz_istore (pc := 21) (L2 := [_, _, _, _, _, _, _, _]) dX12_feed_21 (by decide) rfl ?_
  refine tz_iload (pc := 23) dX12_feed_23 rfl ?_
  refine tz_bipush (pc := 25) dX12_feed_25 (by decide) ?_
  refine tz_icmp_geF (pc := 27) (tgt := 113) (by decide) dX12_feed_27 (by decide) (by decide) (by decide) ?_
  refine tz_iload (pc := 30) dX12_feed_30 rfl ?_
  refine tz_iconst (pc := 32) dX12_feed_32 ?_
  refine tz_icmp_geF (pc := 33) (tgt := 40) (by decide) dX12_feed_33 (by decide) (by decide) (by decide) ?_
  refine tz_iload_n (pc := 36) dX12_feed_36 rfl rfl ?_
  refine tz_goto (pc := 37) (tgt := 76) dX12_feed_37 (by decide) ?_
  refine tz_istore (pc := 76) (L2 := [_, _, _, _, _, _, _, _]) dX12_feed_76 (by decide) rfl ?_
  refine tz_aload_n (pc := 78) dX12_feed_78 rfl rfl ?_
  refine tz_fR (pc := 79) dX12_feed_79 fl_X12_34 r_164_18 ?_
  refine tz_aload_n (pc := 82) dX12_feed_82 rfl rfl ?_
  refine tz_fI (pc := 83) (kz := 19) (v := 0) dX12_feed_83 fl_X12_328 i_164_19 rfl (zjv (z := 0) (F.at (by decide) z_164_19) rfl (by decide)) (fun _ => ?_)
  refine tz_iload (pc := 86) dX12_feed_86 rfl ?_
  refine tz_iadd (pc := 88) (v := 0) dX12_feed_88 (by decide) ?_
  refine tz_iload (pc := 89) dX12_feed_89 rfl ?_
  refine tz_bipush (pc := 91) dX12_feed_91 (by decide) ?_
  refine tz_bipush (pc := 93) dX12_feed_93 (by decide) ?_
  refine tz_iload (pc := 95) dX12_feed_95 rfl ?_
  refine tz_iconst (pc := 97) dX12_feed_97 ?_
  refine tz_irem (pc := 98) (a := 0) (b := 4) (v := 0) dX12_feed_98 (by omega) (by omega) (by decide) ?_
  refine tz_imul (pc := 99) (v := 0) dX12_feed_99 (by decide) ?_
  refine tz_isub (pc := 100) (v := 24) dX12_feed_100 (by decide) ?_
  refine tz_ishr (pc := 101) (v := zshr a 24) dX12_feed_101 rfl ?_
  refine tz_sipush (pc := 102) dX12_feed_102 (by decide) ?_
  refine tz_iand (pc := 105) (v := zand (zshr a 24) 255) dX12_feed_105 rfl ?_
  refine tz_aS (pc := 106) (z := 0) dX12_feed_106 a_173 rfl (by decide) (zand_rg _ _) ?_
  refine tz_iinc (pc := 107) (z := 1) (L2 := [_, _, _, _, _, _, _, _]) dX12_feed_107 rfl (by decide) rfl ?_
  refine tz_goto (pc := 110) (tgt := 23) dX12_feed_110 (by decide) ?_
  refine tz_iload (pc := 23) dX12_feed_23 rfl ?_
  refine tz_bipush (pc := 25) dX12_feed_25 (by decide) ?_
  refine tz_icmp_geF (pc := 27) (tgt := 113) (by decide) dX12_feed_27 (by decide) (by decide) (by decide) ?_
  refine tz_iload (pc := 30) dX12_feed_30 rfl ?_
  refine tz_iconst (pc := 32) dX12_feed_32 ?_
  refine tz_icmp_geF (pc := 33) (tgt := 40) (by decide) dX12_feed_33 (by decide) (by decide) (by decide) ?_
  refine tz_iload_n (pc := 36) dX12_feed_36 rfl rfl ?_
  refine tz_goto (pc := 37) (tgt := 76) dX12_feed_37 (by decide) ?_
  refine tz_istore (pc := 76) (L2 := [_, _, _, _, _, _, _, _]) dX12_feed_76 (by decide) rfl ?_
  refine tz_aload_n (pc := 78) dX12_feed_78 rfl rfl ?_
  refine tz_fR (pc := 79) dX12_feed_79 fl_X12_34 r_164_18 ?_
  refine tz_aload_n (pc := 82) dX12_feed_82 rfl rfl ?_
  refine tz_fI (pc := 83) (kz := 19) (v := 0) dX12_feed_83 fl_X12_328 i_164_19 rfl (zjv (z := 0) (F.at (by decide) z_164_19) rfl (by decide)) (fun _ => ?_)
  refine tz_iload (pc := 86) dX12_feed_86 rfl ?_
  refine tz_iadd (pc := 88) (v := 1) dX12_feed_88 (by decide) ?_
  refine tz_iload (pc := 89) dX12_feed_89 rfl ?_
  refine tz_bipush (pc := 91) dX12_feed_91 (by decide) ?_
  refine tz_bipush (pc := 93) dX12_feed_93 (by decide) ?_
  refine tz_iload (pc := 95) dX12_feed_95 rfl ?_
  refine tz_iconst (pc := 97) dX12_feed_97 ?_
  refine tz_irem (pc := 98) (a := 1) (b := 4) (v := 1) dX12_feed_98 (by omega) (by omega) (by decide) ?_
  refine tz_imul (pc := 99) (v := 8) dX12_feed_99 (by decide) ?_
  refine tz_isub (pc := 100) (v := 16) dX12_feed_100 (by decide) ?_
  refine tz_ishr (pc := 101) (v := zshr a 16) dX12_feed_101 rfl ?_
  refine tz_sipush (pc := 102) dX12_feed_102 (by decide) ?_
  refine tz_iand (pc := 105) (v := zand (zshr a 16) 255) dX12_feed_105 rfl ?_
  refine tz_aS (pc := 106) (z := 1) dX12_feed_106 a_173 rfl (by decide) (zand_rg _ _) ?_
  refine tz_iinc (pc := 107) (z := 2) (L2 := [_, _, _, _, _, _, _, _]) dX12_feed_107 rfl (by decide) rfl ?_
  refine tz_goto (pc := 110) (tgt := 23) dX12_feed_110 (by decide) ?_
  refine tz_iload (pc := 23) dX12_feed_23 rfl ?_
  refine tz_bipush (pc := 25) dX12_feed_25 (by decide) ?_
  refine tz_icmp_geF (pc := 27) (tgt := 113) (by decide) dX12_feed_27 (by decide) (by decide) (by decide) ?_
  refine tz_iload (pc := 30) dX12_feed_30 rfl ?_
  refine tz_iconst (pc := 32) dX12_feed_32 ?_
  refine tz_icmp_geF (pc := 33) (tgt := 40) (by decide) dX12_feed_33 (by decide) (by decide) (by decide) ?_
  refine tz_iload_n (pc := 36) dX12_feed_36 rfl rfl ?_
  refine tz_goto (pc := 37) (tgt := 76) dX12_feed_37 (by decide) ?_
  refine tz_istore (pc := 76) (L2 := [_, _, _, _, _, _, _, _]) dX12_feed_76 (by decide) rfl ?_
  refine tz_aload_n (pc := 78) dX12_feed_78 rfl rfl ?_
  refine tz_fR (pc := 79) dX12_feed_79 fl_X12_34 r_164_18 ?_
  refine tz_aload_n (pc := 82) dX12_feed_82 rfl rfl ?_
  refine tz_fI (pc := 83) (kz := 19) (v := 0) dX12_feed_83 fl_X12_328 i_164_19 rfl (zjv (z := 0) (F.at (by decide) z_164_19) rfl (by decide)) (fun _ => ?_)
  refine tz_iload (pc := 86) dX12_feed_86 rfl ?_
  refine tz_iadd (pc := 88) (v := 2) dX12_feed_88 (by decide) ?_
  refine tz_iload (pc := 89) dX12_feed_89 rfl ?_
  refine tz_bipush (pc := 91) dX12_feed_91 (by decide) ?_
  refine tz_bipush (pc := 93) dX12_feed_93 (by decide) ?_
  refine tz_iload (pc := 95) dX12_feed_95 rfl ?_
  refine tz_iconst (pc := 97) dX12_feed_97 ?_
  refine tz_irem (pc := 98) (a := 2) (b := 4) (v := 2) dX12_feed_98 (by omega) (by omega) (by decide) ?_
  refine tz_imul (pc := 99) (v := 16) dX12_feed_99 (by decide) ?_
  refine tz_isub (pc := 100) (v := 8) dX12_feed_100 (by decide) ?_
  refine tz_ishr (pc := 101) (v := zshr a 8) dX12_feed_101 rfl ?_
  refine tz_sipush (pc := 102) dX12_feed_102 (by decide) ?_
  refine tz_iand (pc := 105) (v := zand (zshr a 8) 255) dX12_feed_105 rfl ?_
  refine tz_aS (pc := 106) (z := 2) dX12_feed_106 a_173 rfl (by decide) (zand_rg _ _) ?_
  refine tz_iinc (pc := 107) (z := 3) (L2 := [_, _, _, _, _, _, _, _]) dX12_feed_107 rfl (by decide) rfl ?_
  refine tz_goto (pc := 110) (tgt := 23) dX12_feed_110 (by decide) ?_
  refine tz_iload (pc := 23) dX12_feed_23 rfl ?_
  refine tz_bipush (pc := 25) dX12_feed_25 (by decide) ?_
  refine tz_icmp_geF (pc := 27) (tgt := 113) (by decide) dX12_feed_27 (by decide) (by decide) (by decide) ?_
  refine tz_iload (pc := 30) dX12_feed_30 rfl ?_
  refine tz_iconst (pc := 32) dX12_feed_32 ?_
  refine tz_icmp_geF (pc := 33) (tgt := 40) (by decide) dX12_feed_33 (by decide) (by decide) (by decide) ?_
  refine tz_iload_n (pc := 36) dX12_feed_36 rfl rfl ?_
  refine tz_goto (pc := 37) (tgt := 76) dX12_feed_37 (by decide) ?_
  refine tz_istore (pc := 76) (L2 := [_, _, _, _, _, _, _, _]) dX12_feed_76 (by decide) rfl ?_
  refine tz_aload_n (pc := 78) dX12_feed_78 rfl rfl ?_
  refine tz_fR (pc := 79) dX12_feed_79 fl_X12_34 r_164_18 ?_
  refine tz_aload_n (pc := 82) dX12_feed_82 rfl rfl ?_
  refine tz_fI (pc := 83) (kz := 19) (v := 0) dX12_feed_83 fl_X12_328 i_164_19 rfl (zjv (z := 0) (F.at (by decide) z_164_19) rfl (by decide)) (fun _ => ?_)
  refine tz_iload (pc := 86) dX12_feed_86 rfl ?_
  refine tz_iadd (pc := 88) (v := 3) dX12_feed_88 (by decide) ?_
  refine tz_iload (pc := 89) dX12_feed_89 rfl ?_
  refine tz_bipush (pc := 91) dX12_feed_91 (by decide) ?_
  refine tz_bipush (pc := 93) dX12_feed_93 (by decide) ?_
  refine tz_iload (pc := 95) dX12_feed_95 rfl ?_
  refine tz_iconst (pc := 97) dX12_feed_97 ?_
  refine tz_irem (pc := 98) (a := 3) (b := 4) (v := 3) dX12_feed_98 (by omega) (by omega) (by decide) ?_
  refine tz_imul (pc := 99) (v := 24) dX12_feed_99 (by decide) ?_
  refine tz_isub (pc := 100) (v := 0) dX12_feed_100 (by decide) ?_
  refine tz_ishr (pc := 101) (v := zshr a 0) dX12_feed_101 rfl ?_
  refine tz_sipush (pc := 102) dX12_feed_102 (by decide) ?_
  refine tz_iand (pc := 105) (v := zand (zshr a 0) 255) dX12_feed_105 rfl ?_
  refine tz_aS (pc := 106) (z := 3) dX12_feed_106 a_173 rfl (by decide) (zand_rg _ _) ?_
  refine tz_iinc (pc := 107) (z := 4) (L2 := [_, _, _, _, _, _, _, _]) dX12_feed_107 rfl (by decide) rfl ?_
  refine tz_goto (pc := 110) (tgt := 23) dX12_feed_110 (by decide) ?_
  refine tz_iload (pc := 23) dX12_feed_23 rfl ?_
  refine tz_bipush (pc := 25) dX12_feed_25 (by decide) ?_
  refine tz_icmp_geF (pc := 27) (tgt := 113) (by decide) dX12_feed_27 (by decide) (by decide) (by decide) ?_
  refine tz_iload (pc := 30) dX12_feed_30 rfl ?_
  refine tz_iconst (pc := 32) dX12_feed_32 ?_
  refine tz_icmp_geT (pc := 33) (tgt := 40) (by decide) dX12_feed_33 (by decide) (by decide) (by decide) ?_
  refine tz_iload (pc := 40) dX12_feed_40 rfl ?_
  refine tz_bipush (pc := 42) dX12_feed_42 (by decide) ?_
  refine tz_icmp_geF (pc := 44) (tgt := 51) (by decide) dX12_feed_44 (by decide) (by decide) (by decide) ?_
  refine tz_iload_n (pc := 47) dX12_feed_47 rfl rfl ?_
  refine tz_goto (pc := 48) (tgt := 76) dX12_feed_48 (by decide) ?_
  refine tz_istore (pc := 76) (L2 := [_, _, _, _, _, _, _, _]) dX12_feed_76 (by decide) rfl ?_
  refine tz_aload_n (pc := 78) dX12_feed_78 rfl rfl ?_
  refine tz_fR (pc := 79) dX12_feed_79 fl_X12_34 r_164_18 ?_
  refine tz_aload_n (pc := 82) dX12_feed_82 rfl rfl ?_
  refine tz_fI (pc := 83) (kz := 19) (v := 0) dX12_feed_83 fl_X12_328 i_164_19 rfl (zjv (z := 0) (F.at (by decide) z_164_19) rfl (by decide)) (fun _ => ?_)
  refine tz_iload (pc := 86) dX12_feed_86 rfl ?_
  refine tz_iadd (pc := 88) (v := 4) dX12_feed_88 (by decide) ?_
  refine tz_iload (pc := 89) dX12_feed_89 rfl ?_
  refine tz_bipush (pc := 91) dX12_feed_91 (by decide) ?_
  refine tz_bipush (pc := 93) dX12_feed_93 (by decide) ?_
  refine tz_iload (pc := 95) dX12_feed_95 rfl ?_
  refine tz_iconst (pc := 97) dX12_feed_97 ?_
  refine tz_irem (pc := 98) (a := 4) (b := 4) (v := 0) dX12_feed_98 (by omega) (by omega) (by decide) ?_
  refine tz_imul (pc := 99) (v := 0) dX12_feed_99 (by decide) ?_
  refine tz_isub (pc := 100) (v := 24) dX12_feed_100 (by decide) ?_
  refine tz_ishr (pc := 101) (v := zshr b 24) dX12_feed_101 rfl ?_
  refine tz_sipush (pc := 102) dX12_feed_102 (by decide) ?_
  refine tz_iand (pc := 105) (v := zand (zshr b 24) 255) dX12_feed_105 rfl ?_
  refine tz_aS (pc := 106) (z := 4) dX12_feed_106 a_173 rfl (by decide) (zand_rg _ _) ?_
  refine tz_iinc (pc := 107) (z := 5) (L2 := [_, _, _, _, _, _, _, _]) dX12_feed_107 rfl (by decide) rfl ?_
  refine tz_goto (pc := 110) (tgt := 23) dX12_feed_110 (by decide) ?_
  refine tz_iload (pc := 23) dX12_feed_23 rfl ?_
  refine tz_bipush (pc := 25) dX12_feed_25 (by decide) ?_
  refine tz_icmp_geF (pc := 27) (tgt := 113) (by decide) dX12_feed_27 (by decide) (by decide) (by decide) ?_
  refine tz_iload (pc := 30) dX12_feed_30 rfl ?_
  refine tz_iconst (pc := 32) dX12_feed_32 ?_
  refine tz_icmp_geT (pc := 33) (tgt := 40) (by decide) dX12_feed_33 (by decide) (by decide) (by decide) ?_
  refine tz_iload (pc := 40) dX12_feed_40 rfl ?_
  refine tz_bipush (pc := 42) dX12_feed_42 (by decide) ?_
  refine tz_icmp_geF (pc := 44) (tgt := 51) (by decide) dX12_feed_44 (by decide) (by decide) (by decide) ?_
  refine tz_iload_n (pc := 47) dX12_feed_47 rfl rfl ?_
  refine tz_goto (pc := 48) (tgt := 76) dX12_feed_48 (by decide) ?_
  refine tz_istore (pc := 76) (L2 := [_, _, _, _, _, _, _, _]) dX12_feed_76 (by decide) rfl ?_
  refine tz_aload_n (pc := 78) dX12_feed_78 rfl rfl ?_
  refine tz_fR (pc := 79) dX12_feed_79 fl_X12_34 r_164_18 ?_
  refine tz_aload_n (pc := 82) dX12_feed_82 rfl rfl ?_
  refine tz_fI (pc := 83) (kz := 19) (v := 0) dX12_feed_83 fl_X12_328 i_164_19 rfl (zjv (z := 0) (F.at (by decide) z_164_19) rfl (by decide)) (fun _ => ?_)
  refine tz_iload (pc := 86) dX12_feed_86 rfl ?_
  refine tz_iadd (pc := 88) (v := 5) dX12_feed_88 (by decide) ?_
  refine tz_iload (pc := 89) dX12_feed_89 rfl ?_
  refine tz_bipush (pc := 91) dX12_feed_91 (by decide) ?_
  refine tz_bipush (pc := 93) dX12_feed_93 (by decide) ?_
  refine tz_iload (pc := 95) dX12_feed_95 rfl ?_
  refine tz_iconst (pc := 97) dX12_feed_97 ?_
  refine tz_irem (pc := 98) (a := 5) (b := 4) (v := 1) dX12_feed_98 (by omega) (by omega) (by decide) ?_
  refine tz_imul (pc := 99) (v := 8) dX12_feed_99 (by decide) ?_
  refine tz_isub (pc := 100) (v := 16) dX12_feed_100 (by decide) ?_
  refine tz_ishr (pc := 101) (v := zshr b 16) dX12_feed_101 rfl ?_
  refine tz_sipush (pc := 102) dX12_feed_102 (by decide) ?_
  refine tz_iand (pc := 105) (v := zand (zshr b 16) 255) dX12_feed_105 rfl ?_
  refine tz_aS (pc := 106) (z := 5) dX12_feed_106 a_173 rfl (by decide) (zand_rg _ _) ?_
  refine tz_iinc (pc := 107) (z := 6) (L2 := [_, _, _, _, _, _, _, _]) dX12_feed_107 rfl (by decide) rfl ?_
  refine tz_goto (pc := 110) (tgt := 23) dX12_feed_110 (by decide) ?_
  refine tz_iload (pc := 23) dX12_feed_23 rfl ?_
  refine tz_bipush (pc := 25) dX12_feed_25 (by decide) ?_
  refine tz_icmp_geF (pc := 27) (tgt := 113) (by decide) dX12_feed_27 (by decide) (by decide) (by decide) ?_
  refine tz_iload (pc := 30) dX12_feed_30 rfl ?_
  refine tz_iconst (pc := 32) dX12_feed_32 ?_
  refine tz_icmp_geT (pc := 33) (tgt := 40) (by decide) dX12_feed_33 (by decide) (by decide) (by decide) ?_
  refine tz_iload (pc := 40) dX12_feed_40 rfl ?_
  refine tz_bipush (pc := 42) dX12_feed_42 (by decide) ?_
  refine tz_icmp_geF (pc := 44) (tgt := 51) (by decide) dX12_feed_44 (by decide) (by decide) (by decide) ?_
  refine tz_iload_n (pc := 47) dX12_feed_47 rfl rfl ?_
  refine tz_goto (pc := 48) (tgt := 76) dX12_feed_48 (by decide) ?_
  refine tz_istore (pc := 76) (L2 := [_, _, _, _, _, _, _, _]) dX12_feed_76 (by decide) rfl ?_
  refine tz_aload_n (pc := 78) dX12_feed_78 rfl rfl ?_
  refine tz_fR (pc := 79) dX12_feed_79 fl_X12_34 r_164_18 ?_
  refine tz_aload_n (pc := 82) dX12_feed_82 rfl rfl ?_
  refine tz_fI (pc := 83) (kz := 19) (v := 0) dX12_feed_83 fl_X12_328 i_164_19 rfl (zjv (z := 0) (F.at (by decide) z_164_19) rfl (by decide)) (fun _ => ?_)
  refine tz_iload (pc := 86) dX12_feed_86 rfl ?_
  refine tz_iadd (pc := 88) (v := 6) dX12_feed_88 (by decide) ?_
  refine tz_iload (pc := 89) dX12_feed_89 rfl ?_
  refine tz_bipush (pc := 91) dX12_feed_91 (by decide) ?_
  refine tz_bipush (pc := 93) dX12_feed_93 (by decide) ?_
  refine tz_iload (pc := 95) dX12_feed_95 rfl ?_
  refine tz_iconst (pc := 97) dX12_feed_97 ?_
  refine tz_irem (pc := 98) (a := 6) (b := 4) (v := 2) dX12_feed_98 (by omega) (by omega) (by decide) ?_
  refine tz_imul (pc := 99) (v := 16) dX12_feed_99 (by decide) ?_
  refine tz_isub (pc := 100) (v := 8) dX12_feed_100 (by decide) ?_
  refine tz_ishr (pc := 101) (v := zshr b 8) dX12_feed_101 rfl ?_
  refine tz_sipush (pc := 102) dX12_feed_102 (by decide) ?_
  refine tz_iand (pc := 105) (v := zand (zshr b 8) 255) dX12_feed_105 rfl ?_
  refine tz_aS (pc := 106) (z := 6) dX12_feed_106 a_173 rfl (by decide) (zand_rg _ _) ?_
  refine tz_iinc (pc := 107) (z := 7) (L2 := [_, _, _, _, _, _, _, _]) dX12_feed_107 rfl (by decide) rfl ?_
  refine tz_goto (pc := 110) (tgt := 23) dX12_feed_110 (by decide) ?_
  refine tz_iload (pc := 23) dX12_feed_23 rfl ?_
  refine tz_bipush (pc := 25) dX12_feed_25 (by decide) ?_
  refine tz_icmp_geF (pc := 27) (tgt := 113) (by decide) dX12_feed_27 (by decide) (by decide) (by decide) ?_
  refine tz_iload (pc := 30) dX12_feed_30 rfl ?_
  refine tz_iconst (pc := 32) dX12_feed_32 ?_
  refine tz_icmp_geT (pc := 33) (tgt := 40) (by decide) dX12_feed_33 (by decide) (by decide) (by decide) ?_
  refine tz_iload (pc := 40) dX12_feed_40 rfl ?_
  refine tz_bipush (pc := 42) dX12_feed_42 (by decide) ?_
  refine tz_icmp_geF (pc := 44) (tgt := 51) (by decide) dX12_feed_44 (by decide) (by decide) (by decide) ?_
  refine tz_iload_n (pc := 47) dX12_feed_47 rfl rfl ?_
  refine tz_goto (pc := 48) (tgt := 76) dX12_feed_48 (by decide) ?_
  refine tz_istore (pc := 76) (L2 := [_, _, _, _, _, _, _, _]) dX12_feed_76 (by decide) rfl ?_
  refine tz_aload_n (pc := 78) dX12_feed_78 rfl rfl ?_
  refine tz_fR (pc := 79) dX12_feed_79 fl_X12_34 r_164_18 ?_
  refine tz_aload_n (pc := 82) dX12_feed_82 rfl rfl ?_
  refine tz_fI (pc := 83) (kz := 19) (v := 0) dX12_feed_83 fl_X12_328 i_164_19 rfl (zjv (z := 0) (F.at (by decide) z_164_19) rfl (by decide)) (fun _ => ?_)
  refine tz_iload (pc := 86) dX12_feed_86 rfl ?_
  refine tz_iadd (pc := 88) (v := 7) dX12_feed_88 (by decide) ?_
  refine tz_iload (pc := 89) dX12_feed_89 rfl ?_
  refine tz_bipush (pc := 91) dX12_feed_91 (by decide) ?_
  refine tz_bipush (pc := 93) dX12_feed_93 (by decide) ?_
  refine tz_iload (pc := 95) dX12_feed_95 rfl ?_
  refine tz_iconst (pc := 97) dX12_feed_97 ?_
  refine tz_irem (pc := 98) (a := 7) (b := 4) (v := 3) dX12_feed_98 (by omega) (by omega) (by decide) ?_
  refine tz_imul (pc := 99) (v := 24) dX12_feed_99 (by decide) ?_
  refine tz_isub (pc := 100) (v := 0) dX12_feed_100 (by decide) ?_
  refine tz_ishr (pc := 101) (v := zshr b 0) dX12_feed_101 rfl ?_
  refine tz_sipush (pc := 102) dX12_feed_102 (by decide) ?_
  refine tz_iand (pc := 105) (v := zand (zshr b 0) 255) dX12_feed_105 rfl ?_
  refine tz_aS (pc := 106) (z := 7) dX12_feed_106 a_173 rfl (by decide) (zand_rg _ _) ?_
  refine tz_iinc (pc := 107) (z := 8) (L2 := [_, _, _, _, _, _, _, _]) dX12_feed_107 rfl (by decide) rfl ?_
  refine tz_goto (pc := 110) (tgt := 23) dX12_feed_110 (by decide) ?_
  refine tz_iload (pc := 23) dX12_feed_23 rfl ?_
  refine tz_bipush (pc := 25) dX12_feed_25 (by decide) ?_
  refine tz_icmp_geF (pc := 27) (tgt := 113) (by decide) dX12_feed_27 (by decide) (by decide) (by decide) ?_
  refine tz_iload (pc := 30) dX12_feed_30 rfl ?_
  refine tz_iconst (pc := 32) dX12_feed_32 ?_
  refine tz_icmp_geT (pc := 33) (tgt := 40) (by decide) dX12_feed_33 (by decide) (by decide) (by decide) ?_
  refine tz_iload (pc := 40) dX12_feed_40 rfl ?_
  refine tz_bipush (pc := 42) dX12_feed_42 (by decide) ?_
  refine tz_icmp_geT (pc := 44) (tgt := 51) (by decide) dX12_feed_44 (by decide) (by decide) (by decide) ?_
  refine tz_iload (pc := 51) dX12_feed_51 rfl ?_
  refine tz_bipush (pc := 53) dX12_feed_53 (by decide) ?_
  refine tz_icmp_geF (pc := 55) (tgt := 62) (by decide) dX12_feed_55 (by decide) (by decide) (by decide) ?_
  refine tz_iload_n (pc := 58) dX12_feed_58 rfl rfl ?_
  refine tz_goto (pc := 59) (tgt := 76) dX12_feed_59 (by decide) ?_
  refine tz_istore (pc := 76) (L2 := [_, _, _, _, _, _, _, _]) dX12_feed_76 (by decide) rfl ?_
  refine tz_aload_n (pc := 78) dX12_feed_78 rfl rfl ?_
  refine tz_fR (pc := 79) dX12_feed_79 fl_X12_34 r_164_18 ?_
  refine tz_aload_n (pc := 82) dX12_feed_82 rfl rfl ?_
  refine tz_fI (pc := 83) (kz := 19) (v := 0) dX12_feed_83 fl_X12_328 i_164_19 rfl (zjv (z := 0) (F.at (by decide) z_164_19) rfl (by decide)) (fun _ => ?_)
  refine tz_iload (pc := 86) dX12_feed_86 rfl ?_
  refine tz_iadd (pc := 88) (v := 8) dX12_feed_88 (by decide) ?_
  refine tz_iload (pc := 89) dX12_feed_89 rfl ?_
  refine tz_bipush (pc := 91) dX12_feed_91 (by decide) ?_
  refine tz_bipush (pc := 93) dX12_feed_93 (by decide) ?_
  refine tz_iload (pc := 95) dX12_feed_95 rfl ?_
  refine tz_iconst (pc := 97) dX12_feed_97 ?_
  refine tz_irem (pc := 98) (a := 8) (b := 4) (v := 0) dX12_feed_98 (by omega) (by omega) (by decide) ?_
  refine tz_imul (pc := 99) (v := 0) dX12_feed_99 (by decide) ?_
  refine tz_isub (pc := 100) (v := 24) dX12_feed_100 (by decide) ?_
  refine tz_ishr (pc := 101) (v := zshr c 24) dX12_feed_101 rfl ?_
  refine tz_sipush (pc := 102) dX12_feed_102 (by decide) ?_
  refine tz_iand (pc := 105) (v := zand (zshr c 24) 255) dX12_feed_105 rfl ?_
  refine tz_aS (pc := 106) (z := 8) dX12_feed_106 a_173 rfl (by decide) (zand_rg _ _) ?_
  refine tz_iinc (pc := 107) (z := 9) (L2 := [_, _, _, _, _, _, _, _]) dX12_feed_107 rfl (by decide) rfl ?_
  refine tz_goto (pc := 110) (tgt := 23) dX12_feed_110 (by decide) ?_
  refine tz_iload (pc := 23) dX12_feed_23 rfl ?_
  refine tz_bipush (pc := 25) dX12_feed_25 (by decide) ?_
  refine tz_icmp_geF (pc := 27) (tgt := 113) (by decide) dX12_feed_27 (by decide) (by decide) (by decide) ?_
  refine tz_iload (pc := 30) dX12_feed_30 rfl ?_
  refine tz_iconst (pc := 32) dX12_feed_32 ?_
  refine tz_icmp_geT (pc := 33) (tgt := 40) (by decide) dX12_feed_33 (by decide) (by decide) (by decide) ?_
  refine tz_iload (pc := 40) dX12_feed_40 rfl ?_
  refine tz_bipush (pc := 42) dX12_feed_42 (by decide) ?_
  refine tz_icmp_geT (pc := 44) (tgt := 51) (by decide) dX12_feed_44 (by decide) (by decide) (by decide) ?_
  refine tz_iload (pc := 51) dX12_feed_51 rfl ?_
  refine tz_bipush (pc := 53) dX12_feed_53 (by decide) ?_
  refine tz_icmp_geF (pc := 55) (tgt := 62) (by decide) dX12_feed_55 (by decide) (by decide) (by decide) ?_
  refine tz_iload_n (pc := 58) dX12_feed_58 rfl rfl ?_
  refine tz_goto (pc := 59) (tgt := 76) dX12_feed_59 (by decide) ?_
  refine tz_istore (pc := 76) (L2 := [_, _, _, _, _, _, _, _]) dX12_feed_76 (by decide) rfl ?_
  refine tz_aload_n (pc := 78) dX12_feed_78 rfl rfl ?_
  refine tz_fR (pc := 79) dX12_feed_79 fl_X12_34 r_164_18 ?_
  refine tz_aload_n (pc := 82) dX12_feed_82 rfl rfl ?_
  refine tz_fI (pc := 83) (kz := 19) (v := 0) dX12_feed_83 fl_X12_328 i_164_19 rfl (zjv (z := 0) (F.at (by decide) z_164_19) rfl (by decide)) (fun _ => ?_)
  refine tz_iload (pc := 86) dX12_feed_86 rfl ?_
  refine tz_iadd (pc := 88) (v := 9) dX12_feed_88 (by decide) ?_
  refine tz_iload (pc := 89) dX12_feed_89 rfl ?_
  refine tz_bipush (pc := 91) dX12_feed_91 (by decide) ?_
  refine tz_bipush (pc := 93) dX12_feed_93 (by decide) ?_
  refine tz_iload (pc := 95) dX12_feed_95 rfl ?_
  refine tz_iconst (pc := 97) dX12_feed_97 ?_
  refine tz_irem (pc := 98) (a := 9) (b := 4) (v := 1) dX12_feed_98 (by omega) (by omega) (by decide) ?_
  refine tz_imul (pc := 99) (v := 8) dX12_feed_99 (by decide) ?_
  refine tz_isub (pc := 100) (v := 16) dX12_feed_100 (by decide) ?_
  refine tz_ishr (pc := 101) (v := zshr c 16) dX12_feed_101 rfl ?_
  refine tz_sipush (pc := 102) dX12_feed_102 (by decide) ?_
  refine tz_iand (pc := 105) (v := zand (zshr c 16) 255) dX12_feed_105 rfl ?_
  refine tz_aS (pc := 106) (z := 9) dX12_feed_106 a_173 rfl (by decide) (zand_rg _ _) ?_
  refine tz_iinc (pc := 107) (z := 10) (L2 := [_, _, _, _, _, _, _, _]) dX12_feed_107 rfl (by decide) rfl ?_
  refine tz_goto (pc := 110) (tgt := 23) dX12_feed_110 (by decide) ?_
  refine tz_iload (pc := 23) dX12_feed_23 rfl ?_
  refine tz_bipush (pc := 25) dX12_feed_25 (by decide) ?_
  refine tz_icmp_geF (pc := 27) (tgt := 113) (by decide) dX12_feed_27 (by decide) (by decide) (by decide) ?_
  refine tz_iload (pc := 30) dX12_feed_30 rfl ?_
  refine tz_iconst (pc := 32) dX12_feed_32 ?_
  refine tz_icmp_geT (pc := 33) (tgt := 40) (by decide) dX12_feed_33 (by decide) (by decide) (by decide) ?_
  refine tz_iload (pc := 40) dX12_feed_40 rfl ?_
  refine tz_bipush (pc := 42) dX12_feed_42 (by decide) ?_
  refine tz_icmp_geT (pc := 44) (tgt := 51) (by decide) dX12_feed_44 (by decide) (by decide) (by decide) ?_
  refine tz_iload (pc := 51) dX12_feed_51 rfl ?_
  refine tz_bipush (pc := 53) dX12_feed_53 (by decide) ?_
  refine tz_icmp_geF (pc := 55) (tgt := 62) (by decide) dX12_feed_55 (by decide) (by decide) (by decide) ?_
  refine tz_iload_n (pc := 58) dX12_feed_58 rfl rfl ?_
  refine tz_goto (pc := 59) (tgt := 76) dX12_feed_59 (by decide) ?_
  refine tz_istore (pc := 76) (L2 := [_, _, _, _, _, _, _, _]) dX12_feed_76 (by decide) rfl ?_
  refine tz_aload_n (pc := 78) dX12_feed_78 rfl rfl ?_
  refine tz_fR (pc := 79) dX12_feed_79 fl_X12_34 r_164_18 ?_
  refine tz_aload_n (pc := 82) dX12_feed_82 rfl rfl ?_
  refine tz_fI (pc := 83) (kz := 19) (v := 0) dX12_feed_83 fl_X12_328 i_164_19 rfl (zjv (z := 0) (F.at (by decide) z_164_19) rfl (by decide)) (fun _ => ?_)
  refine tz_iload (pc := 86) dX12_feed_86 rfl ?_
  refine tz_iadd (pc := 88) (v := 10) dX12_feed_88 (by decide) ?_
  refine tz_iload (pc := 89) dX12_feed_89 rfl ?_
  refine tz_bipush (pc := 91) dX12_feed_91 (by decide) ?_
  refine tz_bipush (pc := 93) dX12_feed_93 (by decide) ?_
  refine tz_iload (pc := 95) dX12_feed_95 rfl ?_
  refine tz_iconst (pc := 97) dX12_feed_97 ?_
  refine tz_irem (pc := 98) (a := 10) (b := 4) (v := 2) dX12_feed_98 (by omega) (by omega) (by decide) ?_
  refine tz_imul (pc := 99) (v := 16) dX12_feed_99 (by decide) ?_
  refine tz_isub (pc := 100) (v := 8) dX12_feed_100 (by decide) ?_
  refine tz_ishr (pc := 101) (v := zshr c 8) dX12_feed_101 rfl ?_
  refine tz_sipush (pc := 102) dX12_feed_102 (by decide) ?_
  refine tz_iand (pc := 105) (v := zand (zshr c 8) 255) dX12_feed_105 rfl ?_
  refine tz_aS (pc := 106) (z := 10) dX12_feed_106 a_173 rfl (by decide) (zand_rg _ _) ?_
  refine tz_iinc (pc := 107) (z := 11) (L2 := [_, _, _, _, _, _, _, _]) dX12_feed_107 rfl (by decide) rfl ?_
  refine tz_goto (pc := 110) (tgt := 23) dX12_feed_110 (by decide) ?_
  refine tz_iload (pc := 23) dX12_feed_23 rfl ?_
  refine tz_bipush (pc := 25) dX12_feed_25 (by decide) ?_
  refine tz_icmp_geF (pc := 27) (tgt := 113) (by decide) dX12_feed_27 (by decide) (by decide) (by decide) ?_
  refine tz_iload (pc := 30) dX12_feed_30 rfl ?_
  refine tz_iconst (pc := 32) dX12_feed_32 ?_
  refine tz_icmp_geT (pc := 33) (tgt := 40) (by decide) dX12_feed_33 (by decide) (by decide) (by decide) ?_
  refine tz_iload (pc := 40) dX12_feed_40 rfl ?_
  refine tz_bipush (pc := 42) dX12_feed_42 (by decide) ?_
  refine tz_icmp_geT (pc := 44) (tgt := 51) (by decide) dX12_feed_44 (by decide) (by decide) (by decide) ?_
  refine tz_iload (pc := 51) dX12_feed_51 rfl ?_
  refine tz_bipush (pc := 53) dX12_feed_53 (by decide) ?_
  refine tz_icmp_geF (pc := 55) (tgt := 62) (by decide) dX12_feed_55 (by decide) (by decide) (by decide) ?_
  refine tz_iload_n (pc := 58) dX12_feed_58 rfl rfl ?_
  refine tz_goto (pc := 59) (tgt := 76) dX12_feed_59 (by decide) ?_
  refine tz_istore (pc := 76) (L2 := [_, _, _, _, _, _, _, _]) dX12_feed_76 (by decide) rfl ?_
  refine tz_aload_n (pc := 78) dX12_feed_78 rfl rfl ?_
  refine tz_fR (pc := 79) dX12_feed_79 fl_X12_34 r_164_18 ?_
  refine tz_aload_n (pc := 82) dX12_feed_82 rfl rfl ?_
  refine tz_fI (pc := 83) (kz := 19) (v := 0) dX12_feed_83 fl_X12_328 i_164_19 rfl (zjv (z := 0) (F.at (by decide) z_164_19) rfl (by decide)) (fun _ => ?_)
  refine tz_iload (pc := 86) dX12_feed_86 rfl ?_
  refine tz_iadd (pc := 88) (v := 11) dX12_feed_88 (by decide) ?_
  refine tz_iload (pc := 89) dX12_feed_89 rfl ?_
  refine tz_bipush (pc := 91) dX12_feed_91 (by decide) ?_
  refine tz_bipush (pc := 93) dX12_feed_93 (by decide) ?_
  refine tz_iload (pc := 95) dX12_feed_95 rfl ?_
  refine tz_iconst (pc := 97) dX12_feed_97 ?_
  refine tz_irem (pc := 98) (a := 11) (b := 4) (v := 3) dX12_feed_98 (by omega) (by omega) (by decide) ?_
  refine tz_imul (pc := 99) (v := 24) dX12_feed_99 (by decide) ?_
  refine tz_isub (pc := 100) (v := 0) dX12_feed_100 (by decide) ?_
  refine tz_ishr (pc := 101) (v := zshr c 0) dX12_feed_101 rfl ?_
  refine tz_sipush (pc := 102) dX12_feed_102 (by decide) ?_
  refine tz_iand (pc := 105) (v := zand (zshr c 0) 255) dX12_feed_105 rfl ?_
  refine tz_aS (pc := 106) (z := 11) dX12_feed_106 a_173 rfl (by decide) (zand_rg _ _) ?_
  refine tz_iinc (pc := 107) (z := 12) (L2 := [_, _, _, _, _, _, _, _]) dX12_feed_107 rfl (by decide) rfl ?_
  refine tz_goto (pc := 110) (tgt := 23) dX12_feed_110 (by decide) ?_
  refine tz_iload (pc := 23) dX12_feed_23 rfl ?_
  refine tz_bipush (pc := 25) dX12_feed_25 (by decide) ?_
  refine tz_icmp_geF (pc := 27) (tgt := 113) (by decide) dX12_feed_27 (by decide) (by decide) (by decide) ?_
  refine tz_iload (pc := 30) dX12_feed_30 rfl ?_
  refine tz_iconst (pc := 32) dX12_feed_32 ?_
  refine tz_icmp_geT (pc := 33) (tgt := 40) (by decide) dX12_feed_33 (by decide) (by decide) (by decide) ?_
  refine tz_iload (pc := 40) dX12_feed_40 rfl ?_
  refine tz_bipush (pc := 42) dX12_feed_42 (by decide) ?_
  refine tz_icmp_geT (pc := 44) (tgt := 51) (by decide) dX12_feed_44 (by decide) (by decide) (by decide) ?_
  refine tz_iload (pc := 51) dX12_feed_51 rfl ?_
  refine tz_bipush (pc := 53) dX12_feed_53 (by decide) ?_
  refine tz_icmp_geT (pc := 55) (tgt := 62) (by decide) dX12_feed_55 (by decide) (by decide) (by decide) ?_
  refine tz_iload (pc := 62) dX12_feed_62 rfl ?_
  refine tz_bipush (pc := 64) dX12_feed_64 (by decide) ?_
  refine tz_icmp_geF (pc := 66) (tgt := 74) (by decide) dX12_feed_66 (by decide) (by decide) (by decide) ?_
  refine tz_iload (pc := 69) dX12_feed_69 rfl ?_
  refine tz_goto (pc := 71) (tgt := 76) dX12_feed_71 (by decide) ?_
  refine tz_istore (pc := 76) (L2 := [_, _, _, _, _, _, _, _]) dX12_feed_76 (by decide) rfl ?_
  refine tz_aload_n (pc := 78) dX12_feed_78 rfl rfl ?_
  refine tz_fR (pc := 79) dX12_feed_79 fl_X12_34 r_164_18 ?_
  refine tz_aload_n (pc := 82) dX12_feed_82 rfl rfl ?_
  refine tz_fI (pc := 83) (kz := 19) (v := 0) dX12_feed_83 fl_X12_328 i_164_19 rfl (zjv (z := 0) (F.at (by decide) z_164_19) rfl (by decide)) (fun _ => ?_)
  refine tz_iload (pc := 86) dX12_feed_86 rfl ?_
  refine tz_iadd (pc := 88) (v := 12) dX12_feed_88 (by decide) ?_
  refine tz_iload (pc := 89) dX12_feed_89 rfl ?_
  refine tz_bipush (pc := 91) dX12_feed_91 (by decide) ?_
  refine tz_bipush (pc := 93) dX12_feed_93 (by decide) ?_
  refine tz_iload (pc := 95) dX12_feed_95 rfl ?_
  refine tz_iconst (pc := 97) dX12_feed_97 ?_
  refine tz_irem (pc := 98) (a := 12) (b := 4) (v := 0) dX12_feed_98 (by omega) (by omega) (by decide) ?_
  refine tz_imul (pc := 99) (v := 0) dX12_feed_99 (by decide) ?_
  refine tz_isub (pc := 100) (v := 24) dX12_feed_100 (by decide) ?_
  refine tz_ishr (pc := 101) (v := zshr d 24) dX12_feed_101 rfl ?_
  refine tz_sipush (pc := 102) dX12_feed_102 (by decide) ?_
  refine tz_iand (pc := 105) (v := zand (zshr d 24) 255) dX12_feed_105 rfl ?_
  refine tz_aS (pc := 106) (z := 12) dX12_feed_106 a_173 rfl (by decide) (zand_rg _ _) ?_
  refine tz_iinc (pc := 107) (z := 13) (L2 := [_, _, _, _, _, _, _, _]) dX12_feed_107 rfl (by decide) rfl ?_
  refine tz_goto (pc := 110) (tgt := 23) dX12_feed_110 (by decide) ?_
  refine tz_iload (pc := 23) dX12_feed_23 rfl ?_
  refine tz_bipush (pc := 25) dX12_feed_25 (by decide) ?_
  refine tz_icmp_geF (pc := 27) (tgt := 113) (by decide) dX12_feed_27 (by decide) (by decide) (by decide) ?_
  refine tz_iload (pc := 30) dX12_feed_30 rfl ?_
  refine tz_iconst (pc := 32) dX12_feed_32 ?_
  refine tz_icmp_geT (pc := 33) (tgt := 40) (by decide) dX12_feed_33 (by decide) (by decide) (by decide) ?_
  refine tz_iload (pc := 40) dX12_feed_40 rfl ?_
  refine tz_bipush (pc := 42) dX12_feed_42 (by decide) ?_
  refine tz_icmp_geT (pc := 44) (tgt := 51) (by decide) dX12_feed_44 (by decide) (by decide) (by decide) ?_
  refine tz_iload (pc := 51) dX12_feed_51 rfl ?_
  refine tz_bipush (pc := 53) dX12_feed_53 (by decide) ?_
  refine tz_icmp_geT (pc := 55) (tgt := 62) (by decide) dX12_feed_55 (by decide) (by decide) (by decide) ?_
  refine tz_iload (pc := 62) dX12_feed_62 rfl ?_
  refine tz_bipush (pc := 64) dX12_feed_64 (by decide) ?_
  refine tz_icmp_geF (pc := 66) (tgt := 74) (by decide) dX12_feed_66 (by decide) (by decide) (by decide) ?_
  refine tz_iload (pc := 69) dX12_feed_69 rfl ?_
  refine tz_goto (pc := 71) (tgt := 76) dX12_feed_71 (by decide) ?_
  refine tz_istore (pc := 76) (L2 := [_, _, _, _, _, _, _, _]) dX12_feed_76 (by decide) rfl ?_
  refine tz_aload_n (pc := 78) dX12_feed_78 rfl rfl ?_
  refine tz_fR (pc := 79) dX12_feed_79 fl_X12_34 r_164_18 ?_
  refine tz_aload_n (pc := 82) dX12_feed_82 rfl rfl ?_
  refine tz_fI (pc := 83) (kz := 19) (v := 0) dX12_feed_83 fl_X12_328 i_164_19 rfl (zjv (z := 0) (F.at (by decide) z_164_19) rfl (by decide)) (fun _ => ?_)
  refine tz_iload (pc := 86) dX12_feed_86 rfl ?_
  refine tz_iadd (pc := 88) (v := 13) dX12_feed_88 (by decide) ?_
  refine tz_iload (pc := 89) dX12_feed_89 rfl ?_
  refine tz_bipush (pc := 91) dX12_feed_91 (by decide) ?_
  refine tz_bipush (pc := 93) dX12_feed_93 (by decide) ?_
  refine tz_iload (pc := 95) dX12_feed_95 rfl ?_
  refine tz_iconst (pc := 97) dX12_feed_97 ?_
  refine tz_irem (pc := 98) (a := 13) (b := 4) (v := 1) dX12_feed_98 (by omega) (by omega) (by decide) ?_
  refine tz_imul (pc := 99) (v := 8) dX12_feed_99 (by decide) ?_
  refine tz_isub (pc := 100) (v := 16) dX12_feed_100 (by decide) ?_
  refine tz_ishr (pc := 101) (v := zshr d 16) dX12_feed_101 rfl ?_
  refine tz_sipush (pc := 102) dX12_feed_102 (by decide) ?_
  refine tz_iand (pc := 105) (v := zand (zshr d 16) 255) dX12_feed_105 rfl ?_
  refine tz_aS (pc := 106) (z := 13) dX12_feed_106 a_173 rfl (by decide) (zand_rg _ _) ?_
  refine tz_iinc (pc := 107) (z := 14) (L2 := [_, _, _, _, _, _, _, _]) dX12_feed_107 rfl (by decide) rfl ?_
  refine tz_goto (pc := 110) (tgt := 23) dX12_feed_110 (by decide) ?_
  refine tz_iload (pc := 23) dX12_feed_23 rfl ?_
  refine tz_bipush (pc := 25) dX12_feed_25 (by decide) ?_
  refine tz_icmp_geF (pc := 27) (tgt := 113) (by decide) dX12_feed_27 (by decide) (by decide) (by decide) ?_
  refine tz_iload (pc := 30) dX12_feed_30 rfl ?_
  refine tz_iconst (pc := 32) dX12_feed_32 ?_
  refine tz_icmp_geT (pc := 33) (tgt := 40) (by decide) dX12_feed_33 (by decide) (by decide) (by decide) ?_
  refine tz_iload (pc := 40) dX12_feed_40 rfl ?_
  refine tz_bipush (pc := 42) dX12_feed_42 (by decide) ?_
  refine tz_icmp_geT (pc := 44) (tgt := 51) (by decide) dX12_feed_44 (by decide) (by decide) (by decide) ?_
  refine tz_iload (pc := 51) dX12_feed_51 rfl ?_
  refine tz_bipush (pc := 53) dX12_feed_53 (by decide) ?_
  refine tz_icmp_geT (pc := 55) (tgt := 62) (by decide) dX12_feed_55 (by decide) (by decide) (by decide) ?_
  refine tz_iload (pc := 62) dX12_feed_62 rfl ?_
  refine tz_bipush (pc := 64) dX12_feed_64 (by decide) ?_
  refine tz_icmp_geF (pc := 66) (tgt := 74) (by decide) dX12_feed_66 (by decide) (by decide) (by decide) ?_
  refine tz_iload (pc := 69) dX12_feed_69 rfl ?_
  refine tz_goto (pc := 71) (tgt := 76) dX12_feed_71 (by decide) ?_
  refine tz_istore (pc := 76) (L2 := [_, _, _, _, _, _, _, _]) dX12_feed_76 (by decide) rfl ?_
  refine tz_aload_n (pc := 78) dX12_feed_78 rfl rfl ?_
  refine tz_fR (pc := 79) dX12_feed_79 fl_X12_34 r_164_18 ?_
  refine tz_aload_n (pc := 82) dX12_feed_82 rfl rfl ?_
  refine tz_fI (pc := 83) (kz := 19) (v := 0) dX12_feed_83 fl_X12_328 i_164_19 rfl (zjv (z := 0) (F.at (by decide) z_164_19) rfl (by decide)) (fun _ => ?_)
  refine tz_iload (pc := 86) dX12_feed_86 rfl ?_
  refine tz_iadd (pc := 88) (v := 14) dX12_feed_88 (by decide) ?_
  refine tz_iload (pc := 89) dX12_feed_89 rfl ?_
  refine tz_bipush (pc := 91) dX12_feed_91 (by decide) ?_
  refine tz_bipush (pc := 93) dX12_feed_93 (by decide) ?_
  refine tz_iload (pc := 95) dX12_feed_95 rfl ?_
  refine tz_iconst (pc := 97) dX12_feed_97 ?_
  refine tz_irem (pc := 98) (a := 14) (b := 4) (v := 2) dX12_feed_98 (by omega) (by omega) (by decide) ?_
  refine tz_imul (pc := 99) (v := 16) dX12_feed_99 (by decide) ?_
  refine tz_isub (pc := 100) (v := 8) dX12_feed_100 (by decide) ?_
  refine tz_ishr (pc := 101) (v := zshr d 8) dX12_feed_101 rfl ?_
  refine tz_sipush (pc := 102) dX12_feed_102 (by decide) ?_
  refine tz_iand (pc := 105) (v := zand (zshr d 8) 255) dX12_feed_105 rfl ?_
  refine tz_aS (pc := 106) (z := 14) dX12_feed_106 a_173 rfl (by decide) (zand_rg _ _) ?_
  refine tz_iinc (pc := 107) (z := 15) (L2 := [_, _, _, _, _, _, _, _]) dX12_feed_107 rfl (by decide) rfl ?_
  refine tz_goto (pc := 110) (tgt := 23) dX12_feed_110 (by decide) ?_
  refine tz_iload (pc := 23) dX12_feed_23 rfl ?_
  refine tz_bipush (pc := 25) dX12_feed_25 (by decide) ?_
  refine tz_icmp_geF (pc := 27) (tgt := 113) (by decide) dX12_feed_27 (by decide) (by decide) (by decide) ?_
  refine tz_iload (pc := 30) dX12_feed_30 rfl ?_
  refine tz_iconst (pc := 32) dX12_feed_32 ?_
  refine tz_icmp_geT (pc := 33) (tgt := 40) (by decide) dX12_feed_33 (by decide) (by decide) (by decide) ?_
  refine tz_iload (pc := 40) dX12_feed_40 rfl ?_
  refine tz_bipush (pc := 42) dX12_feed_42 (by decide) ?_
  refine tz_icmp_geT (pc := 44) (tgt := 51) (by decide) dX12_feed_44 (by decide) (by decide) (by decide) ?_
  refine tz_iload (pc := 51) dX12_feed_51 rfl ?_
  refine tz_bipush (pc := 53) dX12_feed_53 (by decide) ?_
  refine tz_icmp_geT (pc := 55) (tgt := 62) (by decide) dX12_feed_55 (by decide) (by decide) (by decide) ?_
  refine tz_iload (pc := 62) dX12_feed_62 rfl ?_
  refine tz_bipush (pc := 64) dX12_feed_64 (by decide) ?_
  refine tz_icmp_geF (pc := 66) (tgt := 74) (by decide) dX12_feed_66 (by decide) (by decide) (by decide) ?_
  refine tz_iload (pc := 69) dX12_feed_69 rfl ?_
  refine tz_goto (pc := 71) (tgt := 76) dX12_feed_71 (by decide) ?_
  refine tz_istore (pc := 76) (L2 := [_, _, _, _, _, _, _, _]) dX12_feed_76 (by decide) rfl ?_
  refine tz_aload_n (pc := 78) dX12_feed_78 rfl rfl ?_
  refine tz_fR (pc := 79) dX12_feed_79 fl_X12_34 r_164_18 ?_
  refine tz_aload_n (pc := 82) dX12_feed_82 rfl rfl ?_
  refine tz_fI (pc := 83) (kz := 19) (v := 0) dX12_feed_83 fl_X12_328 i_164_19 rfl (zjv (z := 0) (F.at (by decide) z_164_19) rfl (by decide)) (fun _ => ?_)
  refine tz_iload (pc := 86) dX12_feed_86 rfl ?_
  refine tz_iadd (pc := 88) (v := 15) dX12_feed_88 (by decide) ?_
  refine tz_iload (pc := 89) dX12_feed_89 rfl ?_
  refine tz_bipush (pc := 91) dX12_feed_91 (by decide) ?_
  refine tz_bipush (pc := 93) dX12_feed_93 (by decide) ?_
  refine tz_iload (pc := 95) dX12_feed_95 rfl ?_
  refine tz_iconst (pc := 97) dX12_feed_97 ?_
  refine tz_irem (pc := 98) (a := 15) (b := 4) (v := 3) dX12_feed_98 (by omega) (by omega) (by decide) ?_
  refine tz_imul (pc := 99) (v := 24) dX12_feed_99 (by decide) ?_
  refine tz_isub (pc := 100) (v := 0) dX12_feed_100 (by decide) ?_
  refine tz_ishr (pc := 101) (v := zshr d 0) dX12_feed_101 rfl ?_
  refine tz_sipush (pc := 102) dX12_feed_102 (by decide) ?_
  refine tz_iand (pc := 105) (v := zand (zshr d 0) 255) dX12_feed_105 rfl ?_
  refine tz_aS (pc := 106) (z := 15) dX12_feed_106 a_173 rfl (by decide) (zand_rg _ _) ?_
  refine tz_iinc (pc := 107) (z := 16) (L2 := [_, _, _, _, _, _, _, _]) dX12_feed_107 rfl (by decide) rfl ?_
  refine tz_goto (pc := 110) (tgt := 23) dX12_feed_110 (by decide) ?_
  refine tz_iload (pc := 23) dX12_feed_23 rfl ?_
  refine tz_bipush (pc := 25) dX12_feed_25 (by decide) ?_
  refine tz_icmp_geF (pc := 27) (tgt := 113) (by decide) dX12_feed_27 (by decide) (by decide) (by decide) ?_
  refine tz_iload (pc := 30) dX12_feed_30 rfl ?_
  refine tz_iconst (pc := 32) dX12_feed_32 ?_
  refine tz_icmp_geT (pc := 33) (tgt := 40) (by decide) dX12_feed_33 (by decide) (by decide) (by decide) ?_
  refine tz_iload (pc := 40) dX12_feed_40 rfl ?_
  refine tz_bipush (pc := 42) dX12_feed_42 (by decide) ?_
  refine tz_icmp_geT (pc := 44) (tgt := 51) (by decide) dX12_feed_44 (by decide) (by decide) (by decide) ?_
  refine tz_iload (pc := 51) dX12_feed_51 rfl ?_
  refine tz_bipush (pc := 53) dX12_feed_53 (by decide) ?_
  refine tz_icmp_geT (pc := 55) (tgt := 62) (by decide) dX12_feed_55 (by decide) (by decide) (by decide) ?_
  refine tz_iload (pc := 62) dX12_feed_62 rfl ?_
  refine tz_bipush (pc := 64) dX12_feed_64 (by decide) ?_
  refine tz_icmp_geT (pc := 66) (tgt := 74) (by decide) dX12_feed_66 (by decide) (by decide) (by decide) ?_
  refine tz_iload (pc := 74) dX12_feed_74 rfl ?_
  refine tz_istore (pc := 76) (L2 := [_, _, _, _, _, _, _, _]) dX12_feed_76 (by decide) rfl ?_
  refine tz_aload_n (pc := 78) dX12_feed_78 rfl rfl ?_
  refine tz_fR (pc := 79) dX12_feed_79 fl_X12_34 r_164_18 ?_
  refine tz_aload_n (pc := 82) dX12_feed_82 rfl rfl ?_
  refine tz_fI (pc := 83) (kz := 19) (v := 0) dX12_feed_83 fl_X12_328 i_164_19 rfl (zjv (z := 0) (F.at (by decide) z_164_19) rfl (by decide)) (fun _ => ?_)
  refine tz_iload (pc := 86) dX12_feed_86 rfl ?_
  refine tz_iadd (pc := 88) (v := 16) dX12_feed_88 (by decide) ?_
  refine tz_iload (pc := 89) dX12_feed_89 rfl ?_
  refine tz_bipush (pc := 91) dX12_feed_91 (by decide) ?_
  refine tz_bipush (pc := 93) dX12_feed_93 (by decide) ?_
  refine tz_iload (pc := 95) dX12_feed_95 rfl ?_
  refine tz_iconst (pc := 97) dX12_feed_97 ?_
  refine tz_irem (pc := 98) (a := 16) (b := 4) (v := 0) dX12_feed_98 (by omega) (by omega) (by decide) ?_
  refine tz_imul (pc := 99) (v := 0) dX12_feed_99 (by decide) ?_
  refine tz_isub (pc := 100) (v := 24) dX12_feed_100 (by decide) ?_
  refine tz_ishr (pc := 101) (v := zshr e 24) dX12_feed_101 rfl ?_
  refine tz_sipush (pc := 102) dX12_feed_102 (by decide) ?_
  refine tz_iand (pc := 105) (v := zand (zshr e 24) 255) dX12_feed_105 rfl ?_
  refine tz_aS (pc := 106) (z := 16) dX12_feed_106 a_173 rfl (by decide) (zand_rg _ _) ?_
  refine tz_iinc (pc := 107) (z := 17) (L2 := [_, _, _, _, _, _, _, _]) dX12_feed_107 rfl (by decide) rfl ?_
  refine tz_goto (pc := 110) (tgt := 23) dX12_feed_110 (by decide) ?_
  refine tz_iload (pc := 23) dX12_feed_23 rfl ?_
  refine tz_bipush (pc := 25) dX12_feed_25 (by decide) ?_
  refine tz_icmp_geF (pc := 27) (tgt := 113) (by decide) dX12_feed_27 (by decide) (by decide) (by decide) ?_
  refine tz_iload (pc := 30) dX12_feed_30 rfl ?_
  refine tz_iconst (pc := 32) dX12_feed_32 ?_
  refine tz_icmp_geT (pc := 33) (tgt := 40) (by decide) dX12_feed_33 (by decide) (by decide) (by decide) ?_
  refine tz_iload (pc := 40) dX12_feed_40 rfl ?_
  refine tz_bipush (pc := 42) dX12_feed_42 (by decide) ?_
  refine tz_icmp_geT (pc := 44) (tgt := 51) (by decide) dX12_feed_44 (by decide) (by decide) (by decide) ?_
  refine tz_iload (pc := 51) dX12_feed_51 rfl ?_
  refine tz_bipush (pc := 53) dX12_feed_53 (by decide) ?_
  refine tz_icmp_geT (pc := 55) (tgt := 62) (by decide) dX12_feed_55 (by decide) (by decide) (by decide) ?_
  refine tz_iload (pc := 62) dX12_feed_62 rfl ?_
  refine tz_bipush (pc := 64) dX12_feed_64 (by decide) ?_
  refine tz_icmp_geT (pc := 66) (tgt := 74) (by decide) dX12_feed_66 (by decide) (by decide) (by decide) ?_
  refine tz_iload (pc := 74) dX12_feed_74 rfl ?_
  refine tz_istore (pc := 76) (L2 := [_, _, _, _, _, _, _, _]) dX12_feed_76 (by decide) rfl ?_
  refine tz_aload_n (pc := 78) dX12_feed_78 rfl rfl ?_
  refine tz_fR (pc := 79) dX12_feed_79 fl_X12_34 r_164_18 ?_
  refine tz_aload_n (pc := 82) dX12_feed_82 rfl rfl ?_
  refine tz_fI (pc := 83) (kz := 19) (v := 0) dX12_feed_83 fl_X12_328 i_164_19 rfl (zjv (z := 0) (F.at (by decide) z_164_19) rfl (by decide)) (fun _ => ?_)
  refine tz_iload (pc := 86) dX12_feed_86 rfl ?_
  refine tz_iadd (pc := 88) (v := 17) dX12_feed_88 (by decide) ?_
  refine tz_iload (pc := 89) dX12_feed_89 rfl ?_
  refine tz_bipush (pc := 91) dX12_feed_91 (by decide) ?_
  refine tz_bipush (pc := 93) dX12_feed_93 (by decide) ?_
  refine tz_iload (pc := 95) dX12_feed_95 rfl ?_
  refine tz_iconst (pc := 97) dX12_feed_97 ?_
  refine tz_irem (pc := 98) (a := 17) (b := 4) (v := 1) dX12_feed_98 (by omega) (by omega) (by decide) ?_
  refine tz_imul (pc := 99) (v := 8) dX12_feed_99 (by decide) ?_
  refine tz_isub (pc := 100) (v := 16) dX12_feed_100 (by decide) ?_
  refine tz_ishr (pc := 101) (v := zshr e 16) dX12_feed_101 rfl ?_
  refine tz_sipush (pc := 102) dX12_feed_102 (by decide) ?_
  refine tz_iand (pc := 105) (v := zand (zshr e 16) 255) dX12_feed_105 rfl ?_
  refine tz_aS (pc := 106) (z := 17) dX12_feed_106 a_173 rfl (by decide) (zand_rg _ _) ?_
  refine tz_iinc (pc := 107) (z := 18) (L2 := [_, _, _, _, _, _, _, _]) dX12_feed_107 rfl (by decide) rfl ?_
  refine tz_goto (pc := 110) (tgt := 23) dX12_feed_110 (by decide) ?_
  refine tz_iload (pc := 23) dX12_feed_23 rfl ?_
  refine tz_bipush (pc := 25) dX12_feed_25 (by decide) ?_
  refine tz_icmp_geF (pc := 27) (tgt := 113) (by decide) dX12_feed_27 (by decide) (by decide) (by decide) ?_
  refine tz_iload (pc := 30) dX12_feed_30 rfl ?_
  refine tz_iconst (pc := 32) dX12_feed_32 ?_
  refine tz_icmp_geT (pc := 33) (tgt := 40) (by decide) dX12_feed_33 (by decide) (by decide) (by decide) ?_
  refine tz_iload (pc := 40) dX12_feed_40 rfl ?_
  refine tz_bipush (pc := 42) dX12_feed_42 (by decide) ?_
  refine tz_icmp_geT (pc := 44) (tgt := 51) (by decide) dX12_feed_44 (by decide) (by decide) (by decide) ?_
  refine tz_iload (pc := 51) dX12_feed_51 rfl ?_
  refine tz_bipush (pc := 53) dX12_feed_53 (by decide) ?_
  refine tz_icmp_geT (pc := 55) (tgt := 62) (by decide) dX12_feed_55 (by decide) (by decide) (by decide) ?_
  refine tz_iload (pc := 62) dX12_feed_62 rfl ?_
  refine tz_bipush (pc := 64) dX12_feed_64 (by decide) ?_
  refine tz_icmp_geT (pc := 66) (tgt := 74) (by decide) dX12_feed_66 (by decide) (by decide) (by decide) ?_
  refine tz_iload (pc := 74) dX12_feed_74 rfl ?_
  refine tz_istore (pc := 76) (L2 := [_, _, _, _, _, _, _, _]) dX12_feed_76 (by decide) rfl ?_
  refine tz_aload_n (pc := 78) dX12_feed_78 rfl rfl ?_
  refine tz_fR (pc := 79) dX12_feed_79 fl_X12_34 r_164_18 ?_
  refine tz_aload_n (pc := 82) dX12_feed_82 rfl rfl ?_
  refine tz_fI (pc := 83) (kz := 19) (v := 0) dX12_feed_83 fl_X12_328 i_164_19 rfl (zjv (z := 0) (F.at (by decide) z_164_19) rfl (by decide)) (fun _ => ?_)
  refine tz_iload (pc := 86) dX12_feed_86 rfl ?_
  refine tz_iadd (pc := 88) (v := 18) dX12_feed_88 (by decide) ?_
  refine tz_iload (pc := 89) dX12_feed_89 rfl ?_
  refine tz_bipush (pc := 91) dX12_feed_91 (by decide) ?_
  refine tz_bipush (pc := 93) dX12_feed_93 (by decide) ?_
  refine tz_iload (pc := 95) dX12_feed_95 rfl ?_
  refine tz_iconst (pc := 97) dX12_feed_97 ?_
  refine tz_irem (pc := 98) (a := 18) (b := 4) (v := 2) dX12_feed_98 (by omega) (by omega) (by decide) ?_
  refine tz_imul (pc := 99) (v := 16) dX12_feed_99 (by decide) ?_
  refine tz_isub (pc := 100) (v := 8) dX12_feed_100 (by decide) ?_
  refine tz_ishr (pc := 101) (v := zshr e 8) dX12_feed_101 rfl ?_
  refine tz_sipush (pc := 102) dX12_feed_102 (by decide) ?_
  refine tz_iand (pc := 105) (v := zand (zshr e 8) 255) dX12_feed_105 rfl ?_
  refine tz_aS (pc := 106) (z := 18) dX12_feed_106 a_173 rfl (by decide) (zand_rg _ _) ?_
  refine tz_iinc (pc := 107) (z := 19) (L2 := [_, _, _, _, _, _, _, _]) dX12_feed_107 rfl (by decide) rfl ?_
  refine tz_goto (pc := 110) (tgt := 23) dX12_feed_110 (by decide) ?_
  refine tz_iload (pc := 23) dX12_feed_23 rfl ?_
  refine tz_bipush (pc := 25) dX12_feed_25 (by decide) ?_
  refine tz_icmp_geF (pc := 27) (tgt := 113) (by decide) dX12_feed_27 (by decide) (by decide) (by decide) ?_
  refine tz_iload (pc := 30) dX12_feed_30 rfl ?_
  refine tz_iconst (pc := 32) dX12_feed_32 ?_
  refine tz_icmp_geT (pc := 33) (tgt := 40) (by decide) dX12_feed_33 (by decide) (by decide) (by decide) ?_
  refine tz_iload (pc := 40) dX12_feed_40 rfl ?_
  refine tz_bipush (pc := 42) dX12_feed_42 (by decide) ?_
  refine tz_icmp_geT (pc := 44) (tgt := 51) (by decide) dX12_feed_44 (by decide) (by decide) (by decide) ?_
  refine tz_iload (pc := 51) dX12_feed_51 rfl ?_
  refine tz_bipush (pc := 53) dX12_feed_53 (by decide) ?_
  refine tz_icmp_geT (pc := 55) (tgt := 62) (by decide) dX12_feed_55 (by decide) (by decide) (by decide) ?_
  refine tz_iload (pc := 62) dX12_feed_62 rfl ?_
  refine tz_bipush (pc := 64) dX12_feed_64 (by decide) ?_
  refine tz_icmp_geT (pc := 66) (tgt := 74) (by decide) dX12_feed_66 (by decide) (by decide) (by decide) ?_
  refine tz_iload (pc := 74) dX12_feed_74 rfl ?_
  refine tz_istore (pc := 76) (L2 := [_, _, _, _, _, _, _, _]) dX12_feed_76 (by decide) rfl ?_
  refine tz_aload_n (pc := 78) dX12_feed_78 rfl rfl ?_
  refine tz_fR (pc := 79) dX12_feed_79 fl_X12_34 r_164_18 ?_
  refine tz_aload_n (pc := 82) dX12_feed_82 rfl rfl ?_
  refine tz_fI (pc := 83) (kz := 19) (v := 0) dX12_feed_83 fl_X12_328 i_164_19 rfl (zjv (z := 0) (F.at (by decide) z_164_19) rfl (by decide)) (fun _ => ?_)
  refine tz_iload (pc := 86) dX12_feed_86 rfl ?_
  refine tz_iadd (pc := 88) (v := 19) dX12_feed_88 (by decide) ?_
  refine tz_iload (pc := 89) dX12_feed_89 rfl ?_
  refine tz_bipush (pc := 91) dX12_feed_91 (by decide) ?_
  refine tz_bipush (pc := 93) dX12_feed_93 (by decide) ?_
  refine tz_iload (pc := 95) dX12_feed_95 rfl ?_
  refine tz_iconst (pc := 97) dX12_feed_97 ?_
  refine tz_irem (pc := 98) (a := 19) (b := 4) (v := 3) dX12_feed_98 (by omega) (by omega) (by decide) ?_
  refine tz_imul (pc := 99) (v := 24) dX12_feed_99 (by decide) ?_
  refine tz_isub (pc := 100) (v := 0) dX12_feed_100 (by decide) ?_
  refine tz_ishr (pc := 101) (v := zshr e 0) dX12_feed_101 rfl ?_
  refine tz_sipush (pc := 102) dX12_feed_102 (by decide) ?_
  refine tz_iand (pc := 105) (v := zand (zshr e 0) 255) dX12_feed_105 rfl ?_
  refine tz_aS (pc := 106) (z := 19) dX12_feed_106 a_173 rfl (by decide) (zand_rg _ _) ?_
  refine tz_iinc (pc := 107) (z := 20) (L2 := [_, _, _, _, _, _, _, _]) dX12_feed_107 rfl (by decide) rfl ?_
  refine tz_goto (pc := 110) (tgt := 23) dX12_feed_110 (by decide) ?_
  refine tz_iload (pc := 23) dX12_feed_23 rfl ?_
  refine tz_bipush (pc := 25) dX12_feed_25 (by decide) ?_
  refine tz_icmp_geT (pc := 27) (tgt := 113) (by decide) dX12_feed_27 (by decide) (by decide) (by decide) ?_
  refine tz_aload_n (pc := 113) dX12_feed_113 rfl rfl ?_
  refine tz_dup (pc := 114) dX12_feed_114 rfl ?_
  refine tz_fI (pc := 115) (kz := 19) (v := 0) dX12_feed_115 fl_X12_328 i_164_19 rfl (zjv (z := 0) (F.at (by decide) z_164_19) rfl (by decide)) (fun _ => ?_)
  refine tz_bipush (pc := 118) dX12_feed_118 (by decide) ?_
  refine tz_iadd (pc := 120) (v := 20) dX12_feed_120 (by decide) ?_
  refine tz_pI (pc := 121) (kz := 19) dX12_feed_121 fl_X12_328 i_164_19 rfl rfl (by decide) ?_
  refine tz_aload_n (pc := 124) dX12_feed_124 rfl rfl ?_
  refine tz_fI (pc := 125) (kz := 19) (v := 20) dX12_feed_125 fl_X12_328 i_164_19 rfl rfl (fun _ => ?_)
  exact tz_iret (pc := 128) (z := 20) dX12_feed_128 rfl (Nat.le_of_ble_eq_true rfl) (Nat.le_of_ble_eq_true rfl) ⟨Nat.le_refl _, Nat.le_add_right _ _⟩ ⟨_, rfl, (by decide), ⟨rfl, rfl, rfl⟩⟩

theorem zm1_MV0 {J : zJ} (h1 : J 164 15 = 0) (h2 : J 164 16 = 0) (h3 : J 164 17 = 0) (h4 : J 164 21 = 0) (h5 : J 164 9 = 0) (h6 : J 164 34 = 0) (h7 : J 165 0 = 0) : zMV 0 J := ⟨⟨h1, h2, h3, h4, h5, h6⟩, h7, by decide, fun t a b => by omega⟩
set_option maxHeartbeats 4000000 in
set_option maxRecDepth 100000 in
theorem m1_variable {l : Launch} {G : tb_G} (hl : l.stackTraces = false) (n : Nat) (I : tb_I) (F : tb_Fm I) (v : Int) (hr_v : -2147483648 ≤ v ∧ v < 2147483648)   : tz_Ok l G M_X12_variable 4 0 0 [.ref 164, zi v] n (zj I) (zqi (fun z J' => z = (if 0 ≤ v ∧ v ≤ 7 then 0 else (-1)) ∧ J' 164 8 = (0) ∧ J' 183 = zj I 183)) zN := by
  refine tz_Ok.of hl (by decide +kernel) rfl (tb_c1 rfl) (Nat.le_of_ble_eq_true rfl) ?_
  show tz_At l G M_X12_variable (tb_rm 4 0 0) none (tb_ZM G 0 0 (zQ n 0 (zqi (fun z J' => z = (if 0 ≤ v ∧ v ≤ 7 then 0 else (-1)) ∧ J' 164 8 = (0) ∧ J' 183 = zj I 183))) (zX n 0 zN)) 0 0 n (zj I) 0 [some (.ref 164), some (zi v)] []
  refine tz_aload_n (pc := 0) dX12_variable_0 rfl rfl ?_
  refine tz_iconst (pc := 1) dX12_variable_1 ?_
  refine tz_pI (pc := 2) (kz := 8) dX12_variable_2 fl_X12_68 i_164_8 rfl rfl (by decide) ?_
  refine tz_iload_n (pc := 5) dX12_variable_5 rfl rfl ?_
  refine tz_iconst (pc := 6) dX12_variable_6 ?_
  refine tz_bipush (pc := 7) dX12_variable_7 (by decide) ?_
  refine tz_cS (pc := 9) (zm_within hl n _ _ _ _ (by omega) (by decide) (by decide)) sl_X12_283 dX12_variable_9 rfl rfl (Nat.le_of_ble_eq_true rfl) ⟨(Nat.le_of_ble_eq_true rfl), (Nat.le_of_ble_eq_true rfl)⟩ rfl rfl (Nat.le_of_ble_eq_true rfl) (Nat.le_of_ble_eq_true rfl) (fun r9 J_9 hq9 => ?_)
  obtain ⟨z_9, rfl, hz_9, rfl, rfl⟩ := hq9
  by_cases hw_12 : 0 ≤ v ∧ v ≤ 7
  · rw [show (if 0 ≤ v ∧ v ≤ 7 then 1 else 0 : Int) = 1 from if_pos hw_12]
    refine tz_if_neT (pc := 12) (tgt := 22) (by decide) dX12_variable_12 (by decide) (by decide) ?_
    refine tz_aload_n (pc := 22) dX12_variable_22 rfl rfl ?_
    refine tz_cV (pc := 23) (zm_begins hl n _) vl_X12_400 dX12_variable_23 o_164 rfl rfl (Nat.le_of_ble_eq_true rfl) ⟨(Nat.le_of_ble_eq_true rfl), (Nat.le_of_ble_eq_true rfl)⟩ rfl rfl (Nat.le_of_ble_eq_true rfl) (Nat.le_of_ble_eq_true rfl) (fun r9 J_23 hq9 => ?_)
    obtain ⟨rfl, rfl⟩ := hq9
    refine tz_aload_n (pc := 26) dX12_variable_26 rfl rfl ?_
    refine tz_aload_n (pc := 27) dX12_variable_27 rfl rfl ?_
    refine tz_iload_n (pc := 28) dX12_variable_28 rfl rfl ?_
    refine tz_cV (pc := 29) (zm1_varTerm hl n _ _ (by omega) 0 (zm1_MV0 (zjv (z := 0) (F.at (by decide) z_164_15) rfl (by decide)) (zjv (z := 0) (F.at (by decide) z_164_16) rfl (by decide)) (zjv (z := 0) (F.at (by decide) z_164_17) rfl (by decide)) rfl (zjv (z := 0) (F.at (by decide) z_164_9) rfl (by decide)) rfl (zjv (z := 0) (F.at (by decide) z_165_0) rfl (by decide))) (by decide) (by omega)) vl_X12_180 dX12_variable_29 o_164 rfl rfl (Nat.le_of_ble_eq_true rfl) ⟨(Nat.le_of_ble_eq_true rfl), (Nat.le_of_ble_eq_true rfl)⟩ rfl rfl (Nat.le_of_ble_eq_true rfl) (Nat.le_of_ble_eq_true rfl) (fun r9 J_29 hq9 => ?_)
    obtain ⟨z_29, rfl, hz_29, m_29, hp1_29, hp2_29, hp3_29, hp4_29, hp5_29⟩ := hq9
    refine tz_cV (pc := 32) (zm1_keeps hl n _ _ (by omega) (Eq.trans (hp3_29 21 (by decide)) rfl) (Eq.trans (hp3_29 10 (by decide)) (zjv (z := 0) (F.at (by decide) z_164_10) rfl (by decide))) (Eq.trans (hp3_29 11 (by decide)) (zjv (z := 0) (F.at (by decide) z_164_11) rfl (by decide)))) vl_X12_403 dX12_variable_32 o_164 rfl rfl (Nat.le_of_ble_eq_true rfl) ⟨(Nat.le_of_ble_eq_true rfl), (Nat.le_of_ble_eq_true rfl)⟩ rfl rfl (Nat.le_of_ble_eq_true rfl) (Nat.le_of_ble_eq_true rfl) (fun r9 J_32 hq9 => ?_)
    obtain ⟨z_32, rfl, hz_32, rfl, g_32, f_32⟩ := hq9
    exact tz_iret (pc := 35) (z := z_29) dX12_variable_35 rfl (Nat.le_of_ble_eq_true rfl) (Nat.le_of_ble_eq_true rfl) ⟨Nat.le_refl _, Nat.le_add_right _ _⟩ ⟨_, rfl, (by omega), ⟨by split <;> omega, (Eq.trans g_32 (Eq.trans (hp3_29 8 (by decide)) rfl)), (Eq.trans (f_32 183 rfl) (Eq.trans (hp5_29 183 rfl) rfl))⟩⟩
  · rw [show (if 0 ≤ v ∧ v ≤ 7 then 1 else 0 : Int) = 0 from if_neg hw_12]
    refine tz_if_neF (pc := 12) (tgt := 22) (by decide) dX12_variable_12 (by decide) (by decide) ?_
    refine tz_aload_n (pc := 15) dX12_variable_15 rfl rfl ?_
    refine tz_iconst (pc := 16) dX12_variable_16 ?_
    refine tz_iconst (pc := 17) dX12_variable_17 ?_
    refine tz_cV (pc := 18) (zm_refuses hl n _ _ _ (by decide) (by decide) (by decide)) vl_X12_391 dX12_variable_18 o_164 rfl rfl (Nat.le_of_ble_eq_true rfl) ⟨(Nat.le_of_ble_eq_true rfl), (Nat.le_of_ble_eq_true rfl)⟩ rfl rfl (Nat.le_of_ble_eq_true rfl) (Nat.le_of_ble_eq_true rfl) (fun r9 J_18 hq9 => ?_)
    obtain ⟨z_18, rfl, hz_18, rfl, f_18⟩ := hq9
    exact tz_iret (pc := 21) (z := (-1)) dX12_variable_21 rfl (Nat.le_of_ble_eq_true rfl) (Nat.le_of_ble_eq_true rfl) ⟨Nat.le_refl _, Nat.le_add_right _ _⟩ ⟨_, rfl, (by decide), ⟨by split <;> omega, (Eq.trans (congrFun (f_18 164 rfl) 8) rfl), (Eq.trans (f_18 183 rfl) rfl)⟩⟩

set_option maxHeartbeats 4000000 in
set_option maxRecDepth 100000 in
theorem m1_draw {l : Launch} {G : tb_G} (hl : l.stackTraces = false) (n : Nat) (I : tb_I) (F : tb_Fm I) (s : Int) (d : Int) (hr_s : -2147483648 ≤ s ∧ s < 2147483648) (hr_d : -2147483648 ≤ d ∧ d < 2147483648)   : tz_Ok l G M_X12_draw 5 0 0 [.ref 164, zi s, zi d] n (zj I) (zqi (fun z J' => z = (if 1 ≤ d ∧ d ≤ 4 then 0 else (-1)) ∧ J' 164 8 = (0) ∧ J' 183 = zj I 183)) zN := by
  refine tz_Ok.of hl (by decide +kernel) rfl (tb_c1 rfl) (Nat.le_of_ble_eq_true rfl) ?_
  show tz_At l G M_X12_draw (tb_rm 5 0 0) none (tb_ZM G 0 0 (zQ n 0 (zqi (fun z J' => z = (if 1 ≤ d ∧ d ≤ 4 then 0 else (-1)) ∧ J' 164 8 = (0) ∧ J' 183 = zj I 183))) (zX n 0 zN)) 0 0 n (zj I) 0 [some (.ref 164), some (zi s), some (zi d)] []
  refine tz_aload_n (pc := 0) dX12_draw_0 rfl rfl ?_
  refine tz_iconst (pc := 1) dX12_draw_1 ?_
  refine tz_pI (pc := 2) (kz := 8) dX12_draw_2 fl_X12_68 i_164_8 rfl rfl (by decide) ?_
  refine tz_iload_n (pc := 5) dX12_draw_5 rfl rfl ?_
  refine tz_iconst (pc := 6) dX12_draw_6 ?_
  refine tz_iconst (pc := 7) dX12_draw_7 ?_
  refine tz_cS (pc := 8) (zm_within hl n _ _ _ _ (by omega) (by decide) (by decide)) sl_X12_283 dX12_draw_8 rfl rfl (Nat.le_of_ble_eq_true rfl) ⟨(Nat.le_of_ble_eq_true rfl), (Nat.le_of_ble_eq_true rfl)⟩ rfl rfl (Nat.le_of_ble_eq_true rfl) (Nat.le_of_ble_eq_true rfl) (fun r9 J_8 hq9 => ?_)
  obtain ⟨z_8, rfl, hz_8, rfl, rfl⟩ := hq9
  by_cases hw_11 : 1 ≤ d ∧ d ≤ 4
  · rw [show (if 1 ≤ d ∧ d ≤ 4 then 1 else 0 : Int) = 1 from if_pos hw_11]
    refine tz_if_neT (pc := 11) (tgt := 21) (by decide) dX12_draw_11 (by decide) (by decide) ?_
    refine tz_aload_n (pc := 21) dX12_draw_21 rfl rfl ?_
    refine tz_cV (pc := 22) (zm_begins hl n _) vl_X12_400 dX12_draw_22 o_164 rfl rfl (Nat.le_of_ble_eq_true rfl) ⟨(Nat.le_of_ble_eq_true rfl), (Nat.le_of_ble_eq_true rfl)⟩ rfl rfl (Nat.le_of_ble_eq_true rfl) (Nat.le_of_ble_eq_true rfl) (fun r9 J_22 hq9 => ?_)
    obtain ⟨rfl, rfl⟩ := hq9
    refine tz_aload_n (pc := 25) dX12_draw_25 rfl rfl ?_
    refine tz_iload_n (pc := 26) dX12_draw_26 rfl rfl ?_
    refine tz_pI (pc := 27) (kz := 46) dX12_draw_27 fl_X12_423 i_164_46 rfl rfl (by omega) ?_
    refine tz_aload_n (pc := 30) dX12_draw_30 rfl rfl ?_
    refine tz_aload_n (pc := 31) dX12_draw_31 rfl rfl ?_
    refine tz_iload_n (pc := 32) dX12_draw_32 rfl rfl ?_
    refine tz_cV (pc := 33) (zm1_drawn hl n _ _ (by omega) 0 (zm1_MV0 (zjv (z := 0) (F.at (by decide) z_164_15) rfl (by decide)) (zjv (z := 0) (F.at (by decide) z_164_16) rfl (by decide)) (zjv (z := 0) (F.at (by decide) z_164_17) rfl (by decide)) rfl (zjv (z := 0) (F.at (by decide) z_164_9) rfl (by decide)) rfl (zjv (z := 0) (F.at (by decide) z_165_0) rfl (by decide))) (by decide)) vl_X12_430 dX12_draw_33 o_164 rfl rfl (Nat.le_of_ble_eq_true rfl) ⟨(Nat.le_of_ble_eq_true rfl), (Nat.le_of_ble_eq_true rfl)⟩ rfl rfl (Nat.le_of_ble_eq_true rfl) (Nat.le_of_ble_eq_true rfl) (fun r9 J_33 hq9 => ?_)
    obtain ⟨z_33, rfl, hz_33, m_33, hp1_33, hp2_33, hp3_33, hp4_33, hp5_33⟩ := hq9
    refine tz_cV (pc := 36) (zm1_keeps hl n _ _ (by omega) (Eq.trans (hp3_33 21 (by decide)) rfl) (Eq.trans (hp3_33 10 (by decide)) (zjv (z := 0) (F.at (by decide) z_164_10) rfl (by decide))) (Eq.trans (hp3_33 11 (by decide)) (zjv (z := 0) (F.at (by decide) z_164_11) rfl (by decide)))) vl_X12_403 dX12_draw_36 o_164 rfl rfl (Nat.le_of_ble_eq_true rfl) ⟨(Nat.le_of_ble_eq_true rfl), (Nat.le_of_ble_eq_true rfl)⟩ rfl rfl (Nat.le_of_ble_eq_true rfl) (Nat.le_of_ble_eq_true rfl) (fun r9 J_36 hq9 => ?_)
    obtain ⟨z_36, rfl, hz_36, rfl, g_36, f_36⟩ := hq9
    exact tz_iret (pc := 39) (z := z_33) dX12_draw_39 rfl (Nat.le_of_ble_eq_true rfl) (Nat.le_of_ble_eq_true rfl) ⟨Nat.le_refl _, Nat.le_add_right _ _⟩ ⟨_, rfl, (by omega), ⟨by split <;> omega, (Eq.trans g_36 (Eq.trans (hp3_33 8 (by decide)) rfl)), (Eq.trans (f_36 183 rfl) (Eq.trans (hp5_33 183 rfl) rfl))⟩⟩
  · rw [show (if 1 ≤ d ∧ d ≤ 4 then 1 else 0 : Int) = 0 from if_neg hw_11]
    refine tz_if_neF (pc := 11) (tgt := 21) (by decide) dX12_draw_11 (by decide) (by decide) ?_
    refine tz_aload_n (pc := 14) dX12_draw_14 rfl rfl ?_
    refine tz_iconst (pc := 15) dX12_draw_15 ?_
    refine tz_iconst (pc := 16) dX12_draw_16 ?_
    refine tz_cV (pc := 17) (zm_refuses hl n _ _ _ (by decide) (by decide) (by decide)) vl_X12_391 dX12_draw_17 o_164 rfl rfl (Nat.le_of_ble_eq_true rfl) ⟨(Nat.le_of_ble_eq_true rfl), (Nat.le_of_ble_eq_true rfl)⟩ rfl rfl (Nat.le_of_ble_eq_true rfl) (Nat.le_of_ble_eq_true rfl) (fun r9 J_17 hq9 => ?_)
    obtain ⟨z_17, rfl, hz_17, rfl, f_17⟩ := hq9
    exact tz_iret (pc := 20) (z := (-1)) dX12_draw_20 rfl (Nat.le_of_ble_eq_true rfl) (Nat.le_of_ble_eq_true rfl) ⟨Nat.le_refl _, Nat.le_add_right _ _⟩ ⟨_, rfl, (by decide), ⟨by split <;> omega, (Eq.trans (congrFun (f_17 164 rfl) 8) rfl), (Eq.trans (f_17 183 rfl) rfl)⟩⟩

set_option maxHeartbeats 4000000 in
set_option maxRecDepth 100000 in
theorem m1_room {l : Launch} {G : tb_G} (hl : l.stackTraces = false) (n : Nat) (I : tb_I) (F : tb_Fm I) (r : Int) (hr_r : -2147483648 ≤ r ∧ r < 2147483648)   : tz_Ok l G M_X12_room 2 0 0 [.ref 164, zi r] n (zj I) (zqi (fun z J' => z = (if 0 ≤ r ∧ r ≤ 9 then 4 else (-1)) ∧ J' 164 8 = (0) ∧ J' 183 = zj I 183)) zN := by
  refine tz_Ok.of hl (by decide +kernel) rfl (tb_c1 rfl) (Nat.le_of_ble_eq_true rfl) ?_
  show tz_At l G M_X12_room (tb_rm 2 0 0) none (tb_ZM G 0 0 (zQ n 0 (zqi (fun z J' => z = (if 0 ≤ r ∧ r ≤ 9 then 4 else (-1)) ∧ J' 164 8 = (0) ∧ J' 183 = zj I 183))) (zX n 0 zN)) 0 0 n (zj I) 0 [some (.ref 164), some (zi r), none] []
  refine tz_aload_n (pc := 0) dX12_room_0 rfl rfl ?_
  refine tz_iconst (pc := 1) dX12_room_1 ?_
  refine tz_pI (pc := 2) (kz := 8) dX12_room_2 fl_X12_68 i_164_8 rfl rfl (by decide) ?_
  refine tz_iload_n (pc := 5) dX12_room_5 rfl rfl ?_
  refine tz_iconst (pc := 6) dX12_room_6 ?_
  refine tz_bipush (pc := 7) dX12_room_7 (by decide) ?_
  refine tz_cS (pc := 9) (zm_within hl n _ _ _ _ (by omega) (by decide) (by decide)) sl_X12_283 dX12_room_9 rfl rfl (Nat.le_of_ble_eq_true rfl) ⟨(Nat.le_of_ble_eq_true rfl), (Nat.le_of_ble_eq_true rfl)⟩ rfl rfl (Nat.le_of_ble_eq_true rfl) (Nat.le_of_ble_eq_true rfl) (fun r9 J_9 hq9 => ?_)
  obtain ⟨z_9, rfl, hz_9, rfl, rfl⟩ := hq9
  by_cases hw_12 : 0 ≤ r ∧ r ≤ 9
  · rw [show (if 0 ≤ r ∧ r ≤ 9 then 1 else 0 : Int) = 1 from if_pos hw_12]
    refine tz_if_neT (pc := 12) (tgt := 22) (by decide) dX12_room_12 (by decide) (by decide) ?_
    refine tz_aload_n (pc := 22) dX12_room_22 rfl rfl ?_
    refine tz_cV (pc := 23) (zm_begins hl n _) vl_X12_400 dX12_room_23 o_164 rfl rfl (Nat.le_of_ble_eq_true rfl) ⟨(Nat.le_of_ble_eq_true rfl), (Nat.le_of_ble_eq_true rfl)⟩ rfl rfl (Nat.le_of_ble_eq_true rfl) (Nat.le_of_ble_eq_true rfl) (fun r9 J_23 hq9 => ?_)
    obtain ⟨rfl, rfl⟩ := hq9
    refine tz_aload_n (pc := 26) dX12_room_26 rfl rfl ?_
    refine tz_fR (pc := 27) dX12_room_27 fl_X12_9 r_164_0 ?_
    refine tz_bipush (pc := 30) dX12_room_30 (by decide) ?_
    refine tz_aL (pc := 32) (z := 39) (v := 4) dX12_room_32 a_165 rfl (by decide) (zjv (z := 4) (F.at (by decide) z_165_39) rfl (by decide)) (fun _ => ?_)
    refine tz_istore_n (pc := 33) (L2 := [_, _, _]) dX12_room_33 rfl (by decide) rfl ?_
    refine tz_aload_n (pc := 34) dX12_room_34 rfl rfl ?_
    refine tz_fR (pc := 35) dX12_room_35 fl_X12_9 r_164_0 ?_
    refine tz_bipush (pc := 38) dX12_room_38 (by decide) ?_
    refine tz_iload_n (pc := 40) dX12_room_40 rfl rfl ?_
    refine tz_aS (pc := 41) (z := 39) dX12_room_41 a_165 rfl (by decide) (by omega) ?_
    refine tz_aload_n (pc := 42) dX12_room_42 rfl rfl ?_
    refine tz_fR (pc := 43) dX12_room_43 fl_X12_9 r_164_0 ?_
    refine tz_bipush (pc := 46) dX12_room_46 (by decide) ?_
    refine tz_iconst (pc := 48) dX12_room_48 ?_
    refine tz_aS (pc := 49) (z := 40) dX12_room_49 a_165 rfl (by decide) (by decide) ?_
    refine tz_aload_n (pc := 50) dX12_room_50 rfl rfl ?_
    refine tz_iload_n (pc := 51) dX12_room_51 rfl rfl ?_
    refine tz_cV (pc := 52) (zm1_keeps hl n _ _ (by decide) rfl (zjv (z := 0) (F.at (by decide) z_164_10) rfl (by decide)) (zjv (z := 0) (F.at (by decide) z_164_11) rfl (by decide))) vl_X12_403 dX12_room_52 o_164 rfl rfl (Nat.le_of_ble_eq_true rfl) ⟨(Nat.le_of_ble_eq_true rfl), (Nat.le_of_ble_eq_true rfl)⟩ rfl rfl (Nat.le_of_ble_eq_true rfl) (Nat.le_of_ble_eq_true rfl) (fun r9 J_52 hq9 => ?_)
    obtain ⟨z_52, rfl, hz_52, rfl, g_52, f_52⟩ := hq9
    exact tz_iret (pc := 55) (z := 4) dX12_room_55 rfl (Nat.le_of_ble_eq_true rfl) (Nat.le_of_ble_eq_true rfl) ⟨Nat.le_refl _, Nat.le_add_right _ _⟩ ⟨_, rfl, (by decide), ⟨by split <;> omega, (Eq.trans g_52 rfl), (Eq.trans (f_52 183 rfl) rfl)⟩⟩
  · rw [show (if 0 ≤ r ∧ r ≤ 9 then 1 else 0 : Int) = 0 from if_neg hw_12]
    refine tz_if_neF (pc := 12) (tgt := 22) (by decide) dX12_room_12 (by decide) (by decide) ?_
    refine tz_aload_n (pc := 15) dX12_room_15 rfl rfl ?_
    refine tz_iconst (pc := 16) dX12_room_16 ?_
    refine tz_iconst (pc := 17) dX12_room_17 ?_
    refine tz_cV (pc := 18) (zm_refuses hl n _ _ _ (by decide) (by decide) (by decide)) vl_X12_391 dX12_room_18 o_164 rfl rfl (Nat.le_of_ble_eq_true rfl) ⟨(Nat.le_of_ble_eq_true rfl), (Nat.le_of_ble_eq_true rfl)⟩ rfl rfl (Nat.le_of_ble_eq_true rfl) (Nat.le_of_ble_eq_true rfl) (fun r9 J_18 hq9 => ?_)
    obtain ⟨z_18, rfl, hz_18, rfl, f_18⟩ := hq9
    exact tz_iret (pc := 21) (z := (-1)) dX12_room_21 rfl (Nat.le_of_ble_eq_true rfl) (Nat.le_of_ble_eq_true rfl) ⟨Nat.le_refl _, Nat.le_add_right _ _⟩ ⟨_, rfl, (by decide), ⟨by split <;> omega, (Eq.trans (congrFun (f_18 164 rfl) 8) rfl), (Eq.trans (f_18 183 rfl) rfl)⟩⟩

set_option maxHeartbeats 4000000 in
set_option maxRecDepth 100000 in
theorem m1_bound {l : Launch} {G : tb_G} (hl : l.stackTraces = false) (n : Nat) (I : tb_I) (F : tb_Fm I) (v : Int) (hr_v : -2147483648 ≤ v ∧ v < 2147483648)   : tz_Ok l G M_X12_bound 1 0 0 [.ref 164, zi v] n (zj I) (zqi (fun z J' => z = (if 0 ≤ v ∧ v ≤ 7 then (-1) else 0) ∧ J' 164 8 = (if 0 ≤ v ∧ v ≤ 7 then 0 else 1) ∧ J' 183 = zj I 183)) zN := by
  refine tz_Ok.of hl (by decide +kernel) rfl (tb_c1 rfl) (Nat.le_of_ble_eq_true rfl) ?_
  show tz_At l G M_X12_bound (tb_rm 1 0 0) none (tb_ZM G 0 0 (zQ n 0 (zqi (fun z J' => z = (if 0 ≤ v ∧ v ≤ 7 then (-1) else 0) ∧ J' 164 8 = (if 0 ≤ v ∧ v ≤ 7 then 0 else 1) ∧ J' 183 = zj I 183))) (zX n 0 zN)) 0 0 n (zj I) 0 [some (.ref 164), some (zi v)] []
  have hbd : ∀ q, 0 ≤ q → q ≤ 7 → zj I 165 (1 + q) = 0 := by
    intro q h1 h2
    have h3 : q = 0 ∨ q = 1 ∨ q = 2 ∨ q = 3 ∨ q = 4 ∨ q = 5 ∨ q = 6 ∨ q = 7 := by omega
    rcases h3 with rfl | rfl | rfl | rfl | rfl | rfl | rfl | rfl
    · exact (zjv (z := 0) (F.at (by decide) z_165_1) rfl (by decide))
    · exact (zjv (z := 0) (F.at (by decide) z_165_2) rfl (by decide))
    · exact (zjv (z := 0) (F.at (by decide) z_165_3) rfl (by decide))
    · exact (zjv (z := 0) (F.at (by decide) z_165_4) rfl (by decide))
    · exact (zjv (z := 0) (F.at (by decide) z_165_5) rfl (by decide))
    · exact (zjv (z := 0) (F.at (by decide) z_165_6) rfl (by decide))
    · exact (zjv (z := 0) (F.at (by decide) z_165_7) rfl (by decide))
    · exact (zjv (z := 0) (F.at (by decide) z_165_8) rfl (by decide))
  refine tz_aload_n (pc := 0) dX12_bound_0 rfl rfl ?_
  refine tz_iconst (pc := 1) dX12_bound_1 ?_
  refine tz_pI (pc := 2) (kz := 8) dX12_bound_2 fl_X12_68 i_164_8 rfl rfl (by decide) ?_
  refine tz_aload_n (pc := 5) dX12_bound_5 rfl rfl ?_
  refine tz_iload_n (pc := 6) dX12_bound_6 rfl rfl ?_
  refine tz_iconst (pc := 7) dX12_bound_7 ?_
  refine tz_bipush (pc := 8) dX12_bound_8 (by decide) ?_
  refine tz_cS (pc := 10) (zm_within hl n _ _ _ _ (by omega) (by decide) (by decide)) sl_X12_283 dX12_bound_10 rfl rfl (Nat.le_of_ble_eq_true rfl) ⟨(Nat.le_of_ble_eq_true rfl), (Nat.le_of_ble_eq_true rfl)⟩ rfl rfl (Nat.le_of_ble_eq_true rfl) (Nat.le_of_ble_eq_true rfl) (fun r9 J_10 hq9 => ?_)
  obtain ⟨z_10, rfl, hz_10, rfl, rfl⟩ := hq9
  by_cases hw_13 : 0 ≤ v ∧ v ≤ 7
  · rw [show (if 0 ≤ v ∧ v ≤ 7 then 1 else 0 : Int) = 1 from if_pos hw_13]
    refine tz_iconst (pc := 13) dX12_bound_13 ?_
    refine tz_cV (pc := 14) (zm_right1 hl n _ _ (by decide) rfl) vl_X12_334 dX12_bound_14 o_164 rfl rfl (Nat.le_of_ble_eq_true rfl) ⟨(Nat.le_of_ble_eq_true rfl), (Nat.le_of_ble_eq_true rfl)⟩ rfl rfl (Nat.le_of_ble_eq_true rfl) (Nat.le_of_ble_eq_true rfl) (fun r9 J_14 hq9 => ?_)
    obtain ⟨z_14, rfl, hz_14, rfl, rfl⟩ := hq9
    refine tz_if_eqF (pc := 17) (tgt := 33) (by decide) dX12_bound_17 (by decide) (by decide) ?_
    refine tz_aload_n (pc := 20) dX12_bound_20 rfl rfl ?_
    refine tz_fR (pc := 21) dX12_bound_21 fl_X12_9 r_164_0 ?_
    refine tz_iconst (pc := 24) dX12_bound_24 ?_
    refine tz_iload_n (pc := 25) dX12_bound_25 rfl rfl ?_
    refine tz_iadd (pc := 26) (v := 1 + v) dX12_bound_26 rfl ?_
    refine tz_aL (pc := 27) (z := (1 + v)) (v := 0) dX12_bound_27 a_165 rfl (by omega) (hbd v hw_13.1 hw_13.2) (fun _ => ?_)
    refine tz_iconst (pc := 28) dX12_bound_28 ?_
    refine tz_isub (pc := 29) (v := -1) dX12_bound_29 (by decide) ?_
    refine tz_goto (pc := 30) (tgt := 34) dX12_bound_30 (by decide) ?_
    exact tz_iret (pc := 34) (z := (-1)) dX12_bound_34 rfl (Nat.le_of_ble_eq_true rfl) (Nat.le_of_ble_eq_true rfl) ⟨Nat.le_refl _, Nat.le_add_right _ _⟩ ⟨_, rfl, (by decide), ⟨by split <;> omega, (Eq.trans (b := 0) rfl (by split <;> omega)), rfl⟩⟩
  · rw [show (if 0 ≤ v ∧ v ≤ 7 then 1 else 0 : Int) = 0 from if_neg hw_13]
    refine tz_iconst (pc := 13) dX12_bound_13 ?_
    refine tz_cV (pc := 14) (zm_right0 hl n _ _ (by decide) rfl (by decide)) vl_X12_334 dX12_bound_14 o_164 rfl rfl (Nat.le_of_ble_eq_true rfl) ⟨(Nat.le_of_ble_eq_true rfl), (Nat.le_of_ble_eq_true rfl)⟩ rfl rfl (Nat.le_of_ble_eq_true rfl) (Nat.le_of_ble_eq_true rfl) (fun r9 J_14 hq9 => ?_)
    obtain ⟨z_14, rfl, hz_14, rfl, rfl⟩ := hq9
    refine tz_if_eqT (pc := 17) (tgt := 33) (by decide) dX12_bound_17 (by decide) (by decide) ?_
    refine tz_iconst (pc := 33) dX12_bound_33 ?_
    exact tz_iret (pc := 34) (z := 0) dX12_bound_34 rfl (Nat.le_of_ble_eq_true rfl) (Nat.le_of_ble_eq_true rfl) ⟨Nat.le_refl _, Nat.le_add_right _ _⟩ ⟨_, rfl, (by decide), ⟨by split <;> omega, (Eq.trans (b := 1) rfl (by split <;> omega)), rfl⟩⟩

set_option maxHeartbeats 4000000 in
set_option maxRecDepth 100000 in
theorem m1_bind {l : Launch} {G : tb_G} (hl : l.stackTraces = false) (n : Nat) (I : tb_I) (F : tb_Fm I) (v : Int) (t : Int) (hr_v : -2147483648 ≤ v ∧ v < 2147483648) (hr_t : -2147483648 ≤ t ∧ t < 2147483648)   : tz_Ok l G M_X12_bind 2 0 0 [.ref 164, zi v, zi t] n (zj I) (zqi (fun z J' => z = (-2) ∧ J' 164 8 = (0) ∧ J' 183 = zj I 183)) zN := by
  refine tz_Ok.of hl (by decide +kernel) rfl (tb_c1 rfl) (Nat.le_of_ble_eq_true rfl) ?_
  show tz_At l G M_X12_bind (tb_rm 2 0 0) none (tb_ZM G 0 0 (zQ n 0 (zqi (fun z J' => z = (-2) ∧ J' 164 8 = (0) ∧ J' 183 = zj I 183))) (zX n 0 zN)) 0 0 n (zj I) 0 [some (.ref 164), some (zi v), some (zi t), none] []
  have hbd : ∀ q, 0 ≤ q → q ≤ 7 → zj I 165 (1 + q) = 0 := by
    intro q h1 h2
    have h3 : q = 0 ∨ q = 1 ∨ q = 2 ∨ q = 3 ∨ q = 4 ∨ q = 5 ∨ q = 6 ∨ q = 7 := by omega
    rcases h3 with rfl | rfl | rfl | rfl | rfl | rfl | rfl | rfl
    · exact (zjv (z := 0) (F.at (by decide) z_165_1) rfl (by decide))
    · exact (zjv (z := 0) (F.at (by decide) z_165_2) rfl (by decide))
    · exact (zjv (z := 0) (F.at (by decide) z_165_3) rfl (by decide))
    · exact (zjv (z := 0) (F.at (by decide) z_165_4) rfl (by decide))
    · exact (zjv (z := 0) (F.at (by decide) z_165_5) rfl (by decide))
    · exact (zjv (z := 0) (F.at (by decide) z_165_6) rfl (by decide))
    · exact (zjv (z := 0) (F.at (by decide) z_165_7) rfl (by decide))
    · exact (zjv (z := 0) (F.at (by decide) z_165_8) rfl (by decide))
  refine tz_aload_n (pc := 0) dX12_bind_0 rfl rfl ?_
  refine tz_iconst (pc := 1) dX12_bind_1 ?_
  refine tz_pI (pc := 2) (kz := 8) dX12_bind_2 fl_X12_68 i_164_8 rfl rfl (by decide) ?_
  refine tz_iload_n (pc := 5) dX12_bind_5 rfl rfl ?_
  refine tz_iconst (pc := 6) dX12_bind_6 ?_
  refine tz_bipush (pc := 7) dX12_bind_7 (by decide) ?_
  refine tz_cS (pc := 9) (zm_within hl n _ _ _ _ (by omega) (by decide) (by decide)) sl_X12_283 dX12_bind_9 rfl rfl (Nat.le_of_ble_eq_true rfl) ⟨(Nat.le_of_ble_eq_true rfl), (Nat.le_of_ble_eq_true rfl)⟩ rfl rfl (Nat.le_of_ble_eq_true rfl) (Nat.le_of_ble_eq_true rfl) (fun r9 J_9 hq9 => ?_)
  obtain ⟨z_9, rfl, hz_9, rfl, rfl⟩ := hq9
  by_cases hw_12 : 0 ≤ v ∧ v ≤ 7
  · rw [show (if 0 ≤ v ∧ v ≤ 7 then 1 else 0 : Int) = 1 from if_pos hw_12]
    refine tz_if_eqF (pc := 12) (tgt := 42) (by decide) dX12_bind_12 (by decide) (by decide) ?_
    refine tz_iload_n (pc := 15) dX12_bind_15 rfl rfl ?_
    refine tz_iconst (pc := 16) dX12_bind_16 ?_
    refine tz_icmp_eq (pc := 17) (tgt := 28) dX12_bind_17 (by decide) (by omega) (by decide) (fun h_17 => ?_) (fun h_17 => ?_)
    · refine tz_aload_n (pc := 28) dX12_bind_28 rfl rfl ?_
      refine tz_fR (pc := 29) dX12_bind_29 fl_X12_9 r_164_0 ?_
      refine tz_iconst (pc := 32) dX12_bind_32 ?_
      refine tz_iload_n (pc := 33) dX12_bind_33 rfl rfl ?_
      refine tz_iadd (pc := 34) (v := 1 + v) dX12_bind_34 rfl ?_
      refine tz_aL (pc := 35) (z := (1 + v)) (v := 0) dX12_bind_35 a_165 rfl (by omega) (hbd v hw_12.1 hw_12.2) (fun _ => ?_)
      refine tz_iload_n (pc := 36) dX12_bind_36 rfl rfl ?_
      refine tz_iconst (pc := 37) dX12_bind_37 ?_
      refine tz_iadd (pc := 38) (v := t + 1) dX12_bind_38 rfl ?_
      refine tz_icmp_neF (pc := 39) (tgt := 50) (by omega) dX12_bind_39 (by decide) (by decide) (by omega) ?_
      refine tz_aload_n (pc := 42) dX12_bind_42 rfl rfl ?_
      refine tz_iconst (pc := 43) dX12_bind_43 ?_
      refine tz_bipush (pc := 44) dX12_bind_44 (by decide) ?_
      refine tz_cV (pc := 46) (zm_refuses hl n _ _ _ (by decide) (by decide) (by decide)) vl_X12_391 dX12_bind_46 o_164 rfl rfl (Nat.le_of_ble_eq_true rfl) ⟨(Nat.le_of_ble_eq_true rfl), (Nat.le_of_ble_eq_true rfl)⟩ rfl rfl (Nat.le_of_ble_eq_true rfl) (Nat.le_of_ble_eq_true rfl) (fun r9 J_46 hq9 => ?_)
      obtain ⟨z_46, rfl, hz_46, rfl, f_46⟩ := hq9
      exact tz_iret (pc := 49) (z := (-2)) dX12_bind_49 rfl (Nat.le_of_ble_eq_true rfl) (Nat.le_of_ble_eq_true rfl) ⟨Nat.le_refl _, Nat.le_add_right _ _⟩ ⟨_, rfl, (by decide), ⟨rfl, (Eq.trans (congrFun (f_46 164 rfl) 8) rfl), (Eq.trans (f_46 183 rfl) rfl)⟩⟩
    · refine tz_aload_n (pc := 20) dX12_bind_20 rfl rfl ?_
      refine tz_iload_n (pc := 21) dX12_bind_21 rfl rfl ?_
      refine tz_cV (pc := 22) (zm1_isTerm hl n _ _ (by omega) (zjv (z := 0) (F.at (by decide) z_165_0) rfl (by decide))) vl_X12_376 dX12_bind_22 o_164 rfl rfl (Nat.le_of_ble_eq_true rfl) ⟨(Nat.le_of_ble_eq_true rfl), (Nat.le_of_ble_eq_true rfl)⟩ rfl rfl (Nat.le_of_ble_eq_true rfl) (Nat.le_of_ble_eq_true rfl) (fun r9 J_22 hq9 => ?_)
      obtain ⟨z_22, rfl, hz_22, rfl, rfl⟩ := hq9
      refine tz_if_eqT (pc := 25) (tgt := 42) (by decide) dX12_bind_25 (by decide) (by decide) ?_
      refine tz_aload_n (pc := 42) dX12_bind_42 rfl rfl ?_
      refine tz_iconst (pc := 43) dX12_bind_43 ?_
      refine tz_bipush (pc := 44) dX12_bind_44 (by decide) ?_
      refine tz_cV (pc := 46) (zm_refuses hl n _ _ _ (by decide) (by decide) (by decide)) vl_X12_391 dX12_bind_46 o_164 rfl rfl (Nat.le_of_ble_eq_true rfl) ⟨(Nat.le_of_ble_eq_true rfl), (Nat.le_of_ble_eq_true rfl)⟩ rfl rfl (Nat.le_of_ble_eq_true rfl) (Nat.le_of_ble_eq_true rfl) (fun r9 J_46 hq9 => ?_)
      obtain ⟨z_46, rfl, hz_46, rfl, f_46⟩ := hq9
      exact tz_iret (pc := 49) (z := (-2)) dX12_bind_49 rfl (Nat.le_of_ble_eq_true rfl) (Nat.le_of_ble_eq_true rfl) ⟨Nat.le_refl _, Nat.le_add_right _ _⟩ ⟨_, rfl, (by decide), ⟨rfl, (Eq.trans (congrFun (f_46 164 rfl) 8) rfl), (Eq.trans (f_46 183 rfl) rfl)⟩⟩
  · rw [show (if 0 ≤ v ∧ v ≤ 7 then 1 else 0 : Int) = 0 from if_neg hw_12]
    refine tz_if_eqT (pc := 12) (tgt := 42) (by decide) dX12_bind_12 (by decide) (by decide) ?_
    refine tz_aload_n (pc := 42) dX12_bind_42 rfl rfl ?_
    refine tz_iconst (pc := 43) dX12_bind_43 ?_
    refine tz_bipush (pc := 44) dX12_bind_44 (by decide) ?_
    refine tz_cV (pc := 46) (zm_refuses hl n _ _ _ (by decide) (by decide) (by decide)) vl_X12_391 dX12_bind_46 o_164 rfl rfl (Nat.le_of_ble_eq_true rfl) ⟨(Nat.le_of_ble_eq_true rfl), (Nat.le_of_ble_eq_true rfl)⟩ rfl rfl (Nat.le_of_ble_eq_true rfl) (Nat.le_of_ble_eq_true rfl) (fun r9 J_46 hq9 => ?_)
    obtain ⟨z_46, rfl, hz_46, rfl, f_46⟩ := hq9
    exact tz_iret (pc := 49) (z := (-2)) dX12_bind_49 rfl (Nat.le_of_ble_eq_true rfl) (Nat.le_of_ble_eq_true rfl) ⟨Nat.le_refl _, Nat.le_add_right _ _⟩ ⟨_, rfl, (by decide), ⟨rfl, (Eq.trans (congrFun (f_46 164 rfl) 8) rfl), (Eq.trans (f_46 183 rfl) rfl)⟩⟩

set_option maxHeartbeats 4000000 in
set_option maxRecDepth 100000 in
theorem zm1_shapes {l : Launch} {G : tb_G} (hl : l.stackTraces = false) (n : Nat) (J : zJ)    (h0 : J 165 0 = 0) (h1 : J 164 16 = 0) : tz_Ok l G M_X12_shapes 1 0 0 [.ref 164] n J (zqi (fun z J' => J = J' ∧ 0 = z)) zN := by
  refine tz_Ok.of hl (by decide +kernel) rfl (tb_c1 rfl) (Nat.le_of_ble_eq_true rfl) ?_
  show tz_At l G M_X12_shapes (tb_rm 1 0 0) none (tb_ZM G 0 0 (zQ n 0 (zqi (fun z J' => J = J' ∧ 0 = z))) (zX n 0 zN)) 0 0 n J 0 [some (.ref 164), none, none, none, none] []
  refine tz_iconst (pc := 0) dX12_shapes_0 ?_
  refine tz_istore_n (pc := 1) (L2 := [_, _, _, _, _]) dX12_shapes_1 rfl (by decide) rfl ?_
  refine tz_iconst (pc := 2) dX12_shapes_2 ?_
  refine tz_istore_n (pc := 3) (L2 := [_, _, _, _, _]) dX12_shapes_3 rfl (by decide) rfl ?_
  refine tz_iload_n (pc := 4) dX12_shapes_4 rfl rfl ?_
  refine tz_aload_n (pc := 5) dX12_shapes_5 rfl rfl ?_
  refine tz_cV (pc := 6) (zm_many hl n _ (by rw [h1]; decide)) vl_X12_96 dX12_shapes_6 o_164 rfl rfl (Nat.le_of_ble_eq_true rfl) ⟨(Nat.le_of_ble_eq_true rfl), (Nat.le_of_ble_eq_true rfl)⟩ rfl rfl (Nat.le_of_ble_eq_true rfl) (Nat.le_of_ble_eq_true rfl) (fun r9 J_6 hq9 => ?_)
  obtain ⟨z_6, rfl, hz_6, rfl, hv_6⟩ := hq9
  obtain rfl : 0 = z_6 := by rw [← hv_6, h1, h0]
  refine tz_icmp_geT (pc := 9) (tgt := 67) (by decide) dX12_shapes_9 (by decide) (by decide) (by decide) ?_
  refine tz_iload_n (pc := 67) dX12_shapes_67 rfl rfl ?_
  exact tz_iret (pc := 68) (z := 0) dX12_shapes_68 rfl (Nat.le_of_ble_eq_true rfl) (Nat.le_of_ble_eq_true rfl) ⟨Nat.le_refl _, Nat.le_add_right _ _⟩ ⟨_, rfl, (by decide), ⟨rfl, rfl⟩⟩

set_option maxHeartbeats 4000000 in
set_option maxRecDepth 100000 in
theorem zm1_meet0 {l : Launch} {G : tb_G} (hl : l.stackTraces = false) (n : Nat) (J : zJ)    (h0 : J 165 9 = 0) : tz_Ok l G M_X12_meetings 0 0 0 [.ref 164, zi 0] n J (zqi (fun z J' => J = J' ∧ 0 = z)) zN := by
  refine tz_Ok.of hl (by decide +kernel) rfl (tb_c1 rfl) (Nat.le_of_ble_eq_true rfl) ?_
  show tz_At l G M_X12_meetings (tb_rm 0 0 0) none (tb_ZM G 0 0 (zQ n 0 (zqi (fun z J' => J = J' ∧ 0 = z))) (zX n 0 zN)) 0 0 n J 0 [some (.ref 164), some (zi 0), none, none, none, none, none, none] []
  refine tz_iconst (pc := 0) dX12_meetings_0 ?_
  refine tz_istore_n (pc := 1) (L2 := [_, _, _, _, _, _, _, _]) dX12_meetings_1 rfl (by decide) rfl ?_
  refine tz_iconst (pc := 2) dX12_meetings_2 ?_
  refine tz_istore_n (pc := 3) (L2 := [_, _, _, _, _, _, _, _]) dX12_meetings_3 rfl (by decide) rfl ?_
  refine tz_iload_n (pc := 4) dX12_meetings_4 rfl rfl ?_
  refine tz_aload_n (pc := 5) dX12_meetings_5 rfl rfl ?_
  refine tz_fR (pc := 6) dX12_meetings_6 fl_X12_9 r_164_0 ?_
  refine tz_bipush (pc := 9) dX12_meetings_9 (by decide) ?_
  refine tz_aL (pc := 11) (z := 9) (v := 0) dX12_meetings_11 a_165 rfl (by decide) h0 (fun _ => ?_)
  refine tz_icmp_geT (pc := 12) (tgt := 151) (by decide) dX12_meetings_12 (by decide) (by decide) (by decide) ?_
  refine tz_iload_n (pc := 151) dX12_meetings_151 rfl rfl ?_
  refine tz_if_eqT (pc := 152) (tgt := 159) (by decide) dX12_meetings_152 (by decide) (by decide) ?_
  refine tz_iload_n (pc := 159) dX12_meetings_159 rfl rfl ?_
  exact tz_iret (pc := 160) (z := 0) dX12_meetings_160 rfl (Nat.le_of_ble_eq_true rfl) (Nat.le_of_ble_eq_true rfl) ⟨Nat.le_refl _, Nat.le_add_right _ _⟩ ⟨_, rfl, (by decide), ⟨rfl, rfl⟩⟩

set_option maxHeartbeats 4000000 in
set_option maxRecDepth 100000 in
theorem zm1_meet1 {l : Launch} {G : tb_G} (hl : l.stackTraces = false) (n : Nat) (J : zJ)    (h0 : J 165 9 = 0) : tz_Ok l G M_X12_meetings 0 0 0 [.ref 164, zi 1] n J (zqi (fun z J' => J = J' ∧ (-1) = z)) zN := by
  refine tz_Ok.of hl (by decide +kernel) rfl (tb_c1 rfl) (Nat.le_of_ble_eq_true rfl) ?_
  show tz_At l G M_X12_meetings (tb_rm 0 0 0) none (tb_ZM G 0 0 (zQ n 0 (zqi (fun z J' => J = J' ∧ (-1) = z))) (zX n 0 zN)) 0 0 n J 0 [some (.ref 164), some (zi 1), none, none, none, none, none, none] []
  refine tz_iconst (pc := 0) dX12_meetings_0 ?_
  refine tz_istore_n (pc := 1) (L2 := [_, _, _, _, _, _, _, _]) dX12_meetings_1 rfl (by decide) rfl ?_
  refine tz_iconst (pc := 2) dX12_meetings_2 ?_
  refine tz_istore_n (pc := 3) (L2 := [_, _, _, _, _, _, _, _]) dX12_meetings_3 rfl (by decide) rfl ?_
  refine tz_iload_n (pc := 4) dX12_meetings_4 rfl rfl ?_
  refine tz_aload_n (pc := 5) dX12_meetings_5 rfl rfl ?_
  refine tz_fR (pc := 6) dX12_meetings_6 fl_X12_9 r_164_0 ?_
  refine tz_bipush (pc := 9) dX12_meetings_9 (by decide) ?_
  refine tz_aL (pc := 11) (z := 9) (v := 0) dX12_meetings_11 a_165 rfl (by decide) h0 (fun _ => ?_)
  refine tz_icmp_geT (pc := 12) (tgt := 151) (by decide) dX12_meetings_12 (by decide) (by decide) (by decide) ?_
  refine tz_iload_n (pc := 151) dX12_meetings_151 rfl rfl ?_
  refine tz_if_eqF (pc := 152) (tgt := 159) (by decide) dX12_meetings_152 (by decide) (by decide) ?_
  refine tz_iconst (pc := 155) dX12_meetings_155 ?_
  refine tz_goto (pc := 156) (tgt := 160) dX12_meetings_156 (by decide) ?_
  exact tz_iret (pc := 160) (z := (-1)) dX12_meetings_160 rfl (Nat.le_of_ble_eq_true rfl) (Nat.le_of_ble_eq_true rfl) ⟨Nat.le_refl _, Nat.le_add_right _ _⟩ ⟨_, rfl, (by decide), ⟨rfl, rfl⟩⟩

set_option maxHeartbeats 4000000 in
set_option maxRecDepth 100000 in
theorem m1_count {l : Launch} {G : tb_G} (hl : l.stackTraces = false) (n : Nat) (I : tb_I) (F : tb_Fm I) (w : Int) (hr_w : -2147483648 ≤ w ∧ w < 2147483648)   : tz_Ok l G M_X12_count 2 0 0 [.ref 164, zi w] n (zj I) (zqi (fun z J' => z = (if w = 4 then 4 else if w = 10 then (-1) else 0) ∧ J' 164 8 = (if 0 ≤ w ∧ w ≤ 16 then 0 else 1) ∧ J' 183 = zj I 183)) zN := by
  refine tz_Ok.of hl (by decide +kernel) rfl (tb_c1 rfl) (Nat.le_of_ble_eq_true rfl) ?_
  show tz_At l G M_X12_count (tb_rm 2 0 0) none (tb_ZM G 0 0 (zQ n 0 (zqi (fun z J' => z = (if w = 4 then 4 else if w = 10 then (-1) else 0) ∧ J' 164 8 = (if 0 ≤ w ∧ w ≤ 16 then 0 else 1) ∧ J' 183 = zj I 183))) (zX n 0 zN)) 0 0 n (zj I) 0 [some (.ref 164), some (zi w)] []
  have hrf : ∀ q, 13 ≤ q → q ≤ 16 → zj I 172 (q - 13) = 0 := by
    intro q h1 h2
    have h3 : q = 13 ∨ q = 14 ∨ q = 15 ∨ q = 16 := by omega
    rcases h3 with rfl | rfl | rfl | rfl
    · exact (zjv (z := 0) (F.at (by decide) z_172_0) rfl (by decide))
    · exact (zjv (z := 0) (F.at (by decide) z_172_1) rfl (by decide))
    · exact (zjv (z := 0) (F.at (by decide) z_172_2) rfl (by decide))
    · exact (zjv (z := 0) (F.at (by decide) z_172_3) rfl (by decide))
  refine tz_aload_n (pc := 0) dX12_count_0 rfl rfl ?_
  refine tz_iconst (pc := 1) dX12_count_1 ?_
  refine tz_pI (pc := 2) (kz := 8) dX12_count_2 fl_X12_68 i_164_8 rfl rfl (by decide) ?_
  refine tz_aload_n (pc := 5) dX12_count_5 rfl rfl ?_
  refine tz_iload_n (pc := 6) dX12_count_6 rfl rfl ?_
  refine tz_iconst (pc := 7) dX12_count_7 ?_
  refine tz_bipush (pc := 8) dX12_count_8 (by decide) ?_
  refine tz_cS (pc := 10) (zm_within hl n _ _ _ _ (by omega) (by decide) (by decide)) sl_X12_283 dX12_count_10 rfl rfl (Nat.le_of_ble_eq_true rfl) ⟨(Nat.le_of_ble_eq_true rfl), (Nat.le_of_ble_eq_true rfl)⟩ rfl rfl (Nat.le_of_ble_eq_true rfl) (Nat.le_of_ble_eq_true rfl) (fun r9 J_10 hq9 => ?_)
  obtain ⟨z_10, rfl, hz_10, rfl, rfl⟩ := hq9
  by_cases hw_13 : 0 ≤ w ∧ w ≤ 16
  · rw [show (if 0 ≤ w ∧ w ≤ 16 then 1 else 0 : Int) = 1 from if_pos hw_13]
    refine tz_iconst (pc := 13) dX12_count_13 ?_
    refine tz_cV (pc := 14) (zm_right1 hl n _ _ (by decide) rfl) vl_X12_334 dX12_count_14 o_164 rfl rfl (Nat.le_of_ble_eq_true rfl) ⟨(Nat.le_of_ble_eq_true rfl), (Nat.le_of_ble_eq_true rfl)⟩ rfl rfl (Nat.le_of_ble_eq_true rfl) (Nat.le_of_ble_eq_true rfl) (fun r9 J_14 hq9 => ?_)
    obtain ⟨z_14, rfl, hz_14, rfl, rfl⟩ := hq9
    refine tz_if_neT (pc := 17) (tgt := 22) (by decide) dX12_count_17 (by decide) (by decide) ?_
    refine tz_iload_n (pc := 22) dX12_count_22 rfl rfl ?_
    by_cases hs_23 : w < 0 ∨ 12 < w
    · refine tz_tabOut (pc := 23) (tgt := 179) dX12_count_23 (by omega) hs_23 (by decide) ?_
      refine tz_aload_n (pc := 179) dX12_count_179 rfl rfl ?_
      refine tz_fR (pc := 180) dX12_count_180 fl_X12_31 r_164_7 ?_
      refine tz_iload_n (pc := 183) dX12_count_183 rfl rfl ?_
      refine tz_bipush (pc := 184) dX12_count_184 (by decide) ?_
      refine tz_isub (pc := 186) (v := w - 13) dX12_count_186 rfl ?_
      refine tz_aL (pc := 187) (z := (w - 13)) (v := 0) dX12_count_187 a_172 rfl (by omega) (hrf w (by omega) hw_13.2) (fun _ => ?_)
      exact tz_iret (pc := 188) (z := 0) dX12_count_188 rfl (Nat.le_of_ble_eq_true rfl) (Nat.le_of_ble_eq_true rfl) ⟨Nat.le_refl _, Nat.le_add_right _ _⟩ ⟨_, rfl, (by decide), ⟨by subst_vars; first | rfl | (split <;> first | omega | (split <;> omega)), (Eq.trans (b := 0) rfl (by split <;> omega)), rfl⟩⟩
    · have hs9 : w = 0 ∨ w = 1 ∨ w = 2 ∨ w = 3 ∨ w = 4 ∨ w = 5 ∨ w = 6 ∨ w = 7 ∨ w = 8 ∨ w = 9 ∨ w = 10 ∨ w = 11 ∨ w = 12 := by omega
      rcases hs9 with hc_23 | hc_23 | hc_23 | hc_23 | hc_23 | hc_23 | hc_23 | hc_23 | hc_23 | hc_23 | hc_23 | hc_23 | hc_23
      · refine tz_tabIn (pc := 23) (tgt := 88) 0 dX12_count_23 hc_23 (by decide) rfl (by decide) ?_
        refine tz_aload_n (pc := 88) dX12_count_88 rfl rfl ?_
        refine tz_fI (pc := 89) (kz := 9) (v := 0) dX12_count_89 fl_X12_347 i_164_9 rfl (zjv (z := 0) (F.at (by decide) z_164_9) rfl (by decide)) (fun _ => ?_)
        exact tz_iret (pc := 92) (z := 0) dX12_count_92 rfl (Nat.le_of_ble_eq_true rfl) (Nat.le_of_ble_eq_true rfl) ⟨Nat.le_refl _, Nat.le_add_right _ _⟩ ⟨_, rfl, (by decide), ⟨by subst_vars; first | rfl | (split <;> first | omega | (split <;> omega)), (Eq.trans (b := 0) rfl (by split <;> omega)), rfl⟩⟩
      · refine tz_tabIn (pc := 23) (tgt := 93) 1 dX12_count_23 hc_23 (by decide) rfl (by decide) ?_
        refine tz_aload_n (pc := 93) dX12_count_93 rfl rfl ?_
        refine tz_fR (pc := 94) dX12_count_94 fl_X12_9 r_164_0 ?_
        refine tz_iconst (pc := 97) dX12_count_97 ?_
        refine tz_aL (pc := 98) (z := 0) (v := 0) dX12_count_98 a_165 rfl (by decide) (zjv (z := 0) (F.at (by decide) z_165_0) rfl (by decide)) (fun _ => ?_)
        exact tz_iret (pc := 99) (z := 0) dX12_count_99 rfl (Nat.le_of_ble_eq_true rfl) (Nat.le_of_ble_eq_true rfl) ⟨Nat.le_refl _, Nat.le_add_right _ _⟩ ⟨_, rfl, (by decide), ⟨by subst_vars; first | rfl | (split <;> first | omega | (split <;> omega)), (Eq.trans (b := 0) rfl (by split <;> omega)), rfl⟩⟩
      · refine tz_tabIn (pc := 23) (tgt := 100) 2 dX12_count_23 hc_23 (by decide) rfl (by decide) ?_
        refine tz_aload_n (pc := 100) dX12_count_100 rfl rfl ?_
        refine tz_fR (pc := 101) dX12_count_101 fl_X12_9 r_164_0 ?_
        refine tz_bipush (pc := 104) dX12_count_104 (by decide) ?_
        refine tz_aL (pc := 106) (z := 9) (v := 0) dX12_count_106 a_165 rfl (by decide) (zjv (z := 0) (F.at (by decide) z_165_9) rfl (by decide)) (fun _ => ?_)
        exact tz_iret (pc := 107) (z := 0) dX12_count_107 rfl (Nat.le_of_ble_eq_true rfl) (Nat.le_of_ble_eq_true rfl) ⟨Nat.le_refl _, Nat.le_add_right _ _⟩ ⟨_, rfl, (by decide), ⟨by subst_vars; first | rfl | (split <;> first | omega | (split <;> omega)), (Eq.trans (b := 0) rfl (by split <;> omega)), rfl⟩⟩
      · refine tz_tabIn (pc := 23) (tgt := 108) 3 dX12_count_23 hc_23 (by decide) rfl (by decide) ?_
        refine tz_aload_n (pc := 108) dX12_count_108 rfl rfl ?_
        refine tz_fR (pc := 109) dX12_count_109 fl_X12_9 r_164_0 ?_
        refine tz_bipush (pc := 112) dX12_count_112 (by decide) ?_
        refine tz_aL (pc := 114) (z := 26) (v := 0) dX12_count_114 a_165 rfl (by decide) (zjv (z := 0) (F.at (by decide) z_165_26) rfl (by decide)) (fun _ => ?_)
        exact tz_iret (pc := 115) (z := 0) dX12_count_115 rfl (Nat.le_of_ble_eq_true rfl) (Nat.le_of_ble_eq_true rfl) ⟨Nat.le_refl _, Nat.le_add_right _ _⟩ ⟨_, rfl, (by decide), ⟨by subst_vars; first | rfl | (split <;> first | omega | (split <;> omega)), (Eq.trans (b := 0) rfl (by split <;> omega)), rfl⟩⟩
      · refine tz_tabIn (pc := 23) (tgt := 116) 4 dX12_count_23 hc_23 (by decide) rfl (by decide) ?_
        refine tz_aload_n (pc := 116) dX12_count_116 rfl rfl ?_
        refine tz_fR (pc := 117) dX12_count_117 fl_X12_9 r_164_0 ?_
        refine tz_bipush (pc := 120) dX12_count_120 (by decide) ?_
        refine tz_aL (pc := 122) (z := 39) (v := 4) dX12_count_122 a_165 rfl (by decide) (zjv (z := 4) (F.at (by decide) z_165_39) rfl (by decide)) (fun _ => ?_)
        exact tz_iret (pc := 123) (z := 4) dX12_count_123 rfl (Nat.le_of_ble_eq_true rfl) (Nat.le_of_ble_eq_true rfl) ⟨Nat.le_refl _, Nat.le_add_right _ _⟩ ⟨_, rfl, (by decide), ⟨by subst_vars; first | rfl | (split <;> first | omega | (split <;> omega)), (Eq.trans (b := 0) rfl (by split <;> omega)), rfl⟩⟩
      · refine tz_tabIn (pc := 23) (tgt := 124) 5 dX12_count_23 hc_23 (by decide) rfl (by decide) ?_
        refine tz_aload_n (pc := 124) dX12_count_124 rfl rfl ?_
        refine tz_fR (pc := 125) dX12_count_125 fl_X12_9 r_164_0 ?_
        refine tz_bipush (pc := 128) dX12_count_128 (by decide) ?_
        refine tz_aL (pc := 130) (z := 40) (v := 0) dX12_count_130 a_165 rfl (by decide) (zjv (z := 0) (F.at (by decide) z_165_40) rfl (by decide)) (fun _ => ?_)
        exact tz_iret (pc := 131) (z := 0) dX12_count_131 rfl (Nat.le_of_ble_eq_true rfl) (Nat.le_of_ble_eq_true rfl) ⟨Nat.le_refl _, Nat.le_add_right _ _⟩ ⟨_, rfl, (by decide), ⟨by subst_vars; first | rfl | (split <;> first | omega | (split <;> omega)), (Eq.trans (b := 0) rfl (by split <;> omega)), rfl⟩⟩
      · refine tz_tabIn (pc := 23) (tgt := 132) 6 dX12_count_23 hc_23 (by decide) rfl (by decide) ?_
        refine tz_aload_n (pc := 132) dX12_count_132 rfl rfl ?_
        refine tz_fR (pc := 133) dX12_count_133 fl_X12_9 r_164_0 ?_
        refine tz_bipush (pc := 136) dX12_count_136 (by decide) ?_
        refine tz_aL (pc := 138) (z := 61) (v := 0) dX12_count_138 a_165 rfl (by decide) (zjv (z := 0) (F.at (by decide) z_165_61) rfl (by decide)) (fun _ => ?_)
        exact tz_iret (pc := 139) (z := 0) dX12_count_139 rfl (Nat.le_of_ble_eq_true rfl) (Nat.le_of_ble_eq_true rfl) ⟨Nat.le_refl _, Nat.le_add_right _ _⟩ ⟨_, rfl, (by decide), ⟨by subst_vars; first | rfl | (split <;> first | omega | (split <;> omega)), (Eq.trans (b := 0) rfl (by split <;> omega)), rfl⟩⟩
      · refine tz_tabIn (pc := 23) (tgt := 140) 7 dX12_count_23 hc_23 (by decide) rfl (by decide) ?_
        refine tz_aload_n (pc := 140) dX12_count_140 rfl rfl ?_
        refine tz_fR (pc := 141) dX12_count_141 fl_X12_9 r_164_0 ?_
        refine tz_bipush (pc := 144) dX12_count_144 (by decide) ?_
        refine tz_aL (pc := 146) (z := 62) (v := 0) dX12_count_146 a_165 rfl (by decide) (zjv (z := 0) (F.at (by decide) z_165_62) rfl (by decide)) (fun _ => ?_)
        exact tz_iret (pc := 147) (z := 0) dX12_count_147 rfl (Nat.le_of_ble_eq_true rfl) (Nat.le_of_ble_eq_true rfl) ⟨Nat.le_refl _, Nat.le_add_right _ _⟩ ⟨_, rfl, (by decide), ⟨by subst_vars; first | rfl | (split <;> first | omega | (split <;> omega)), (Eq.trans (b := 0) rfl (by split <;> omega)), rfl⟩⟩
      · refine tz_tabIn (pc := 23) (tgt := 148) 8 dX12_count_23 hc_23 (by decide) rfl (by decide) ?_
        refine tz_aload_n (pc := 148) dX12_count_148 rfl rfl ?_
        refine tz_cV (pc := 149) (zm1_shapes hl n _ (zjv (z := 0) (F.at (by decide) z_165_0) rfl (by decide)) (zjv (z := 0) (F.at (by decide) z_164_16) rfl (by decide))) vl_X12_362 dX12_count_149 o_164 rfl rfl (Nat.le_of_ble_eq_true rfl) ⟨(Nat.le_of_ble_eq_true rfl), (Nat.le_of_ble_eq_true rfl)⟩ rfl rfl (Nat.le_of_ble_eq_true rfl) (Nat.le_of_ble_eq_true rfl) (fun r9 J_149 hq9 => ?_)
        obtain ⟨z_149, rfl, hz_149, rfl, rfl⟩ := hq9
        exact tz_iret (pc := 152) (z := 0) dX12_count_152 rfl (Nat.le_of_ble_eq_true rfl) (Nat.le_of_ble_eq_true rfl) ⟨Nat.le_refl _, Nat.le_add_right _ _⟩ ⟨_, rfl, (by decide), ⟨by subst_vars; first | rfl | (split <;> first | omega | (split <;> omega)), (Eq.trans (b := 0) rfl (by split <;> omega)), rfl⟩⟩
      · refine tz_tabIn (pc := 23) (tgt := 153) 9 dX12_count_23 hc_23 (by decide) rfl (by decide) ?_
        refine tz_aload_n (pc := 153) dX12_count_153 rfl rfl ?_
        refine tz_iload_n (pc := 154) dX12_count_154 rfl rfl ?_
        refine tz_bipush (pc := 155) dX12_count_155 (by decide) ?_
        refine tz_icmp_ne (pc := 157) (tgt := 164) dX12_count_157 (by decide) (by omega) (by decide) (fun h_157 => ?_) (fun h_157 => ?_)
        · refine tz_iconst (pc := 164) dX12_count_164 ?_
          refine tz_cV (pc := 165) (zm1_meet0 hl n _ (zjv (z := 0) (F.at (by decide) z_165_9) rfl (by decide))) vl_X12_365 dX12_count_165 o_164 rfl rfl (Nat.le_of_ble_eq_true rfl) ⟨(Nat.le_of_ble_eq_true rfl), (Nat.le_of_ble_eq_true rfl)⟩ rfl rfl (Nat.le_of_ble_eq_true rfl) (Nat.le_of_ble_eq_true rfl) (fun r9 J_165 hq9 => ?_)
          obtain ⟨z_165, rfl, hz_165, rfl, rfl⟩ := hq9
          exact tz_iret (pc := 168) (z := 0) dX12_count_168 rfl (Nat.le_of_ble_eq_true rfl) (Nat.le_of_ble_eq_true rfl) ⟨Nat.le_refl _, Nat.le_add_right _ _⟩ ⟨_, rfl, (by decide), ⟨by subst_vars; first | rfl | (split <;> first | omega | (split <;> omega)), (Eq.trans (b := 0) rfl (by split <;> omega)), rfl⟩⟩
        · refine tz_iconst (pc := 160) dX12_count_160 ?_
          refine tz_goto (pc := 161) (tgt := 165) dX12_count_161 (by decide) ?_
          refine tz_cV (pc := 165) (zm1_meet1 hl n _ (zjv (z := 0) (F.at (by decide) z_165_9) rfl (by decide))) vl_X12_365 dX12_count_165 o_164 rfl rfl (Nat.le_of_ble_eq_true rfl) ⟨(Nat.le_of_ble_eq_true rfl), (Nat.le_of_ble_eq_true rfl)⟩ rfl rfl (Nat.le_of_ble_eq_true rfl) (Nat.le_of_ble_eq_true rfl) (fun r9 J_165 hq9 => ?_)
          obtain ⟨z_165, rfl, hz_165, rfl, rfl⟩ := hq9
          exact tz_iret (pc := 168) (z := (-1)) dX12_count_168 rfl (Nat.le_of_ble_eq_true rfl) (Nat.le_of_ble_eq_true rfl) ⟨Nat.le_refl _, Nat.le_add_right _ _⟩ ⟨_, rfl, (by decide), ⟨by subst_vars; first | rfl | (split <;> first | omega | (split <;> omega)), (Eq.trans (b := 0) rfl (by split <;> omega)), rfl⟩⟩
      · refine tz_tabIn (pc := 23) (tgt := 153) 10 dX12_count_23 hc_23 (by decide) rfl (by decide) ?_
        refine tz_aload_n (pc := 153) dX12_count_153 rfl rfl ?_
        refine tz_iload_n (pc := 154) dX12_count_154 rfl rfl ?_
        refine tz_bipush (pc := 155) dX12_count_155 (by decide) ?_
        refine tz_icmp_ne (pc := 157) (tgt := 164) dX12_count_157 (by decide) (by omega) (by decide) (fun h_157 => ?_) (fun h_157 => ?_)
        · refine tz_iconst (pc := 164) dX12_count_164 ?_
          refine tz_cV (pc := 165) (zm1_meet0 hl n _ (zjv (z := 0) (F.at (by decide) z_165_9) rfl (by decide))) vl_X12_365 dX12_count_165 o_164 rfl rfl (Nat.le_of_ble_eq_true rfl) ⟨(Nat.le_of_ble_eq_true rfl), (Nat.le_of_ble_eq_true rfl)⟩ rfl rfl (Nat.le_of_ble_eq_true rfl) (Nat.le_of_ble_eq_true rfl) (fun r9 J_165 hq9 => ?_)
          obtain ⟨z_165, rfl, hz_165, rfl, rfl⟩ := hq9
          exact tz_iret (pc := 168) (z := 0) dX12_count_168 rfl (Nat.le_of_ble_eq_true rfl) (Nat.le_of_ble_eq_true rfl) ⟨Nat.le_refl _, Nat.le_add_right _ _⟩ ⟨_, rfl, (by decide), ⟨by subst_vars; first | rfl | (split <;> first | omega | (split <;> omega)), (Eq.trans (b := 0) rfl (by split <;> omega)), rfl⟩⟩
        · refine tz_iconst (pc := 160) dX12_count_160 ?_
          refine tz_goto (pc := 161) (tgt := 165) dX12_count_161 (by decide) ?_
          refine tz_cV (pc := 165) (zm1_meet1 hl n _ (zjv (z := 0) (F.at (by decide) z_165_9) rfl (by decide))) vl_X12_365 dX12_count_165 o_164 rfl rfl (Nat.le_of_ble_eq_true rfl) ⟨(Nat.le_of_ble_eq_true rfl), (Nat.le_of_ble_eq_true rfl)⟩ rfl rfl (Nat.le_of_ble_eq_true rfl) (Nat.le_of_ble_eq_true rfl) (fun r9 J_165 hq9 => ?_)
          obtain ⟨z_165, rfl, hz_165, rfl, rfl⟩ := hq9
          exact tz_iret (pc := 168) (z := (-1)) dX12_count_168 rfl (Nat.le_of_ble_eq_true rfl) (Nat.le_of_ble_eq_true rfl) ⟨Nat.le_refl _, Nat.le_add_right _ _⟩ ⟨_, rfl, (by decide), ⟨by subst_vars; first | rfl | (split <;> first | omega | (split <;> omega)), (Eq.trans (b := 0) rfl (by split <;> omega)), rfl⟩⟩
      · refine tz_tabIn (pc := 23) (tgt := 169) 11 dX12_count_23 hc_23 (by decide) rfl (by decide) ?_
        refine tz_aload_n (pc := 169) dX12_count_169 rfl rfl ?_
        refine tz_fI (pc := 170) (kz := 10) (v := 0) dX12_count_170 fl_X12_356 i_164_10 rfl (zjv (z := 0) (F.at (by decide) z_164_10) rfl (by decide)) (fun _ => ?_)
        exact tz_iret (pc := 173) (z := 0) dX12_count_173 rfl (Nat.le_of_ble_eq_true rfl) (Nat.le_of_ble_eq_true rfl) ⟨Nat.le_refl _, Nat.le_add_right _ _⟩ ⟨_, rfl, (by decide), ⟨by subst_vars; first | rfl | (split <;> first | omega | (split <;> omega)), (Eq.trans (b := 0) rfl (by split <;> omega)), rfl⟩⟩
      · refine tz_tabIn (pc := 23) (tgt := 174) 12 dX12_count_23 hc_23 (by decide) rfl (by decide) ?_
        refine tz_aload_n (pc := 174) dX12_count_174 rfl rfl ?_
        refine tz_fI (pc := 175) (kz := 19) (v := 0) dX12_count_175 fl_X12_328 i_164_19 rfl (zjv (z := 0) (F.at (by decide) z_164_19) rfl (by decide)) (fun _ => ?_)
        exact tz_iret (pc := 178) (z := 0) dX12_count_178 rfl (Nat.le_of_ble_eq_true rfl) (Nat.le_of_ble_eq_true rfl) ⟨Nat.le_refl _, Nat.le_add_right _ _⟩ ⟨_, rfl, (by decide), ⟨by subst_vars; first | rfl | (split <;> first | omega | (split <;> omega)), (Eq.trans (b := 0) rfl (by split <;> omega)), rfl⟩⟩
  · rw [show (if 0 ≤ w ∧ w ≤ 16 then 1 else 0 : Int) = 0 from if_neg hw_13]
    refine tz_iconst (pc := 13) dX12_count_13 ?_
    refine tz_cV (pc := 14) (zm_right0 hl n _ _ (by decide) rfl (by decide)) vl_X12_334 dX12_count_14 o_164 rfl rfl (Nat.le_of_ble_eq_true rfl) ⟨(Nat.le_of_ble_eq_true rfl), (Nat.le_of_ble_eq_true rfl)⟩ rfl rfl (Nat.le_of_ble_eq_true rfl) (Nat.le_of_ble_eq_true rfl) (fun r9 J_14 hq9 => ?_)
    obtain ⟨z_14, rfl, hz_14, rfl, rfl⟩ := hq9
    refine tz_if_neF (pc := 17) (tgt := 22) (by decide) dX12_count_17 (by decide) (by decide) ?_
    refine tz_iconst (pc := 20) dX12_count_20 ?_
    exact tz_iret (pc := 21) (z := 0) dX12_count_21 rfl (Nat.le_of_ble_eq_true rfl) (Nat.le_of_ble_eq_true rfl) ⟨Nat.le_refl _, Nat.le_add_right _ _⟩ ⟨_, rfl, (by decide), ⟨by subst_vars; first | rfl | (split <;> first | omega | (split <;> omega)), (Eq.trans (b := 1) rfl (by split <;> omega)), rfl⟩⟩

set_option maxHeartbeats 4000000 in
set_option maxRecDepth 100000 in
theorem m1_image {l : Launch} {G : tb_G} (hl : l.stackTraces = false) (n : Nat) (I : tb_I) (F : tb_Fm I)     : tz_Ok l G M_X12_image 1 0 0 [.ref 164] n (zj I) (zqv (fun J' => J' 164 8 = 0 ∧ J' 183 = zj I 183)) zN := by
  refine tz_Ok.of hl (by decide +kernel) rfl (tb_c1 rfl) (Nat.le_of_ble_eq_true rfl) ?_
  show tz_At l G M_X12_image (tb_rm 1 0 0) none (tb_ZM G 0 0 (zQ n 0 (zqv (fun J' => J' 164 8 = 0 ∧ J' 183 = zj I 183))) (zX n 0 zN)) 0 0 n (zj I) 0 [some (.ref 164), none] []
  refine tz_aload_n (pc := 0) dX12_image_0 rfl rfl ?_
  refine tz_iconst (pc := 1) dX12_image_1 ?_
  refine tz_pI (pc := 2) (kz := 8) dX12_image_2 fl_X12_68 i_164_8 rfl rfl (by decide) ?_
  refine tz_aload_n (pc := 5) dX12_image_5 rfl rfl ?_
  refine tz_iconst (pc := 6) dX12_image_6 ?_
  refine tz_sipush (pc := 7) dX12_image_7 (by decide) ?_
  refine tz_cV (pc := 10) (zm_moves hl n _ _ _ (by decide) (by decide) (by decide)) vl_X12_340 dX12_image_10 o_164 rfl rfl (Nat.le_of_ble_eq_true rfl) ⟨(Nat.le_of_ble_eq_true rfl), (Nat.le_of_ble_eq_true rfl)⟩ rfl rfl (Nat.le_of_ble_eq_true rfl) (Nat.le_of_ble_eq_true rfl) (fun r9 J_10 hq9 => ?_)
  obtain ⟨rfl, f_10⟩ := hq9
  refine tz_aload_n (pc := 13) dX12_image_13 rfl rfl ?_
  refine tz_iconst (pc := 14) dX12_image_14 ?_
  refine tz_sipush (pc := 15) dX12_image_15 (by decide) ?_
  refine tz_bipush (pc := 18) dX12_image_18 (by decide) ?_
  refine tz_cV (pc := 20) (zm_copies hl n _ _ _ _ (by decide) (by decide) (by decide) (by decide) (by decide)) vl_X12_343 dX12_image_20 o_164 rfl rfl (Nat.le_of_ble_eq_true rfl) ⟨(Nat.le_of_ble_eq_true rfl), (Nat.le_of_ble_eq_true rfl)⟩ rfl rfl (Nat.le_of_ble_eq_true rfl) (Nat.le_of_ble_eq_true rfl) (fun r9 J_20 hq9 => ?_)
  obtain ⟨rfl, rfl⟩ := hq9
  refine tz_aload_n (pc := 23) dX12_image_23 rfl rfl ?_
  refine tz_sipush (pc := 24) dX12_image_24 (by decide) ?_
  refine tz_sipush (pc := 27) dX12_image_27 (by decide) ?_
  refine tz_sipush (pc := 30) dX12_image_30 (by decide) ?_
  refine tz_cV (pc := 33) (zm_copies hl n _ _ _ _ (by decide) (by decide) (by decide) (by decide) (by decide)) vl_X12_343 dX12_image_33 o_164 rfl rfl (Nat.le_of_ble_eq_true rfl) ⟨(Nat.le_of_ble_eq_true rfl), (Nat.le_of_ble_eq_true rfl)⟩ rfl rfl (Nat.le_of_ble_eq_true rfl) (Nat.le_of_ble_eq_true rfl) (fun r9 J_33 hq9 => ?_)
  obtain ⟨rfl, rfl⟩ := hq9
  refine tz_aload_n (pc := 36) dX12_image_36 rfl rfl ?_
  refine tz_aload_n (pc := 37) dX12_image_37 rfl rfl ?_
  refine tz_fI (pc := 38) (kz := 10) (v := 0) dX12_image_38 fl_X12_356 i_164_10 rfl (Eq.trans (congrFun (f_10 164 rfl) 10) (zjv (z := 0) (F.at (by decide) z_164_10) rfl (by decide))) (fun _ => ?_)
  refine tz_pI (pc := 41) (kz := 12) dX12_image_41 fl_X12_433 i_164_12 rfl rfl (by decide) ?_
  refine tz_aload_n (pc := 44) dX12_image_44 rfl rfl ?_
  refine tz_aload_n (pc := 45) dX12_image_45 rfl rfl ?_
  refine tz_fI (pc := 46) (kz := 11) (v := 0) dX12_image_46 fl_X12_353 i_164_11 rfl (Eq.trans (congrFun (f_10 164 rfl) 11) (zjv (z := 0) (F.at (by decide) z_164_11) rfl (by decide))) (fun _ => ?_)
  refine tz_pI (pc := 49) (kz := 13) dX12_image_49 fl_X12_436 i_164_13 rfl rfl (by decide) ?_
  refine tz_iconst (pc := 52) dX12_image_52 ?_
  refine tz_istore_n (pc := 53) (L2 := [_, _]) dX12_image_53 rfl (by decide) rfl ?_
  have loop54 : ∀ (f9 : Nat) (i : Int) (J1 : zJ), ((4 - i).toNat) < f9 → (0 ≤ i ∧ i ≤ 4) → (zOf (zbut [172]) J1 (zup (zup (zmv (zmv J_10 165 0 2709 63) 165 189 2772 2520) 164 12 0) 164 13 0)) → tz_At l G M_X12_image (tb_rm 1 0 0) none (tb_ZM G 0 0 (zQ n 0 (zqv (fun J' => J' 164 8 = 0 ∧ J' 183 = zj I 183))) (zX n 0 zN)) 0 0 n J1 54 [some (.ref 164), some (zi i)] [] := by
    intro f9
    induction f9 with
    | zero => intro i J1 hm9; exact absurd hm9 (Nat.not_lt_zero _)
    | succ f9 ih54 =>
      intro i J1 hm54 hi fr54
      refine tz_iload_n (pc := 54) dX12_image_54 rfl rfl ?_
      refine tz_iconst (pc := 55) dX12_image_55 ?_
      refine tz_icmp_ge (pc := 56) (tgt := 79) dX12_image_56 (by decide) (by omega) (by decide) (fun h_56 => ?_) (fun h_56 => ?_)
      · refine tz_aload_n (pc := 79) dX12_image_79 rfl rfl ?_
        refine tz_iconst (pc := 80) dX12_image_80 ?_
        refine tz_pI (pc := 81) (kz := 14) dX12_image_81 fl_X12_350 i_164_14 rfl rfl (by decide) ?_
        exact tz_vret (pc := 84) dX12_image_84 rfl (Nat.le_of_ble_eq_true rfl) (Nat.le_of_ble_eq_true rfl) ⟨Nat.le_refl _, Nat.le_add_right _ _⟩ ⟨rfl, ⟨(Eq.trans (congrFun (fr54 164 rfl) 8) (Eq.trans (congrFun (f_10 164 rfl) 8) rfl)), (Eq.trans (fr54 183 rfl) (Eq.trans (f_10 183 rfl) rfl))⟩⟩
      · refine tz_aload_n (pc := 59) dX12_image_59 rfl rfl ?_
        refine tz_fR (pc := 60) dX12_image_60 fl_X12_31 r_164_7 ?_
        refine tz_iconst (pc := 63) dX12_image_63 ?_
        refine tz_iload_n (pc := 64) dX12_image_64 rfl rfl ?_
        refine tz_iadd (pc := 65) (v := 4 + i) dX12_image_65 rfl ?_
        refine tz_aload_n (pc := 66) dX12_image_66 rfl rfl ?_
        refine tz_fR (pc := 67) dX12_image_67 fl_X12_31 r_164_7 ?_
        refine tz_iload_n (pc := 70) dX12_image_70 rfl rfl ?_
        refine tz_aL (pc := 71) (z := i) (v := (J1 172 i)) dX12_image_71 a_172 rfl (by omega) rfl (fun r_71 => ?_)
        refine tz_aS (pc := 72) (z := (4 + i)) dX12_image_72 a_172 rfl (by omega) (by omega) ?_
        refine tz_iinc (pc := 73) (z := i + 1) (L2 := [_, _]) dX12_image_73 rfl (by omega) rfl ?_
        refine tz_goto (pc := 76) (tgt := 54) dX12_image_76 (by decide) ?_
        exact ih54 (i + 1) _ (by omega) (by omega) (by repeat (first | exact fr54 | refine zOf.up rfl ?_))
  exact loop54 _ 0 _ (Nat.lt_succ_self _) (by omega) zOf.rf

set_option maxHeartbeats 4000000 in
set_option maxRecDepth 100000 in
theorem m1_bank {l : Launch} {G : tb_G} (hl : l.stackTraces = false) (n : Nat) (I : tb_I) (F : tb_Fm I) (b : Int) (hr_b : -2147483648 ≤ b ∧ b < 2147483648)   : tz_Ok l G M_X12_bank 3 0 0 [.ref 164, zi b] n (zj I) (zqi (fun z J' => z = (0) ∧ J' 164 8 = (if b = 0 then 0 else 1) ∧ J' 183 = zj I 183)) zN := by
  refine tz_Ok.of hl (by decide +kernel) rfl (tb_c1 rfl) (Nat.le_of_ble_eq_true rfl) ?_
  show tz_At l G M_X12_bank (tb_rm 3 0 0) none (tb_ZM G 0 0 (zQ n 0 (zqi (fun z J' => z = (0) ∧ J' 164 8 = (if b = 0 then 0 else 1) ∧ J' 183 = zj I 183))) (zX n 0 zN)) 0 0 n (zj I) 0 [some (.ref 164), some (zi b), none] []
  refine tz_aload_n (pc := 0) dX12_bank_0 rfl rfl ?_
  refine tz_iconst (pc := 1) dX12_bank_1 ?_
  refine tz_pI (pc := 2) (kz := 8) dX12_bank_2 fl_X12_68 i_164_8 rfl rfl (by decide) ?_
  refine tz_aload_n (pc := 5) dX12_bank_5 rfl rfl ?_
  refine tz_iload_n (pc := 6) dX12_bank_6 rfl rfl ?_
  refine tz_if_lt (pc := 7) (tgt := 22) dX12_bank_7 (by decide) (by omega) (fun h_7 => ?_) (fun h_7 => ?_)
  · refine tz_iconst (pc := 22) dX12_bank_22 ?_
    refine tz_iconst (pc := 23) dX12_bank_23 ?_
    refine tz_cV (pc := 24) (zm_right0 hl n _ _ (by decide) rfl (by decide)) vl_X12_334 dX12_bank_24 o_164 rfl rfl (Nat.le_of_ble_eq_true rfl) ⟨(Nat.le_of_ble_eq_true rfl), (Nat.le_of_ble_eq_true rfl)⟩ rfl rfl (Nat.le_of_ble_eq_true rfl) (Nat.le_of_ble_eq_true rfl) (fun r9 J_24 hq9 => ?_)
    obtain ⟨z_24, rfl, hz_24, rfl, rfl⟩ := hq9
    refine tz_if_neF (pc := 27) (tgt := 32) (by decide) dX12_bank_27 (by decide) (by decide) ?_
    refine tz_iconst (pc := 30) dX12_bank_30 ?_
    exact tz_iret (pc := 31) (z := 0) dX12_bank_31 rfl (Nat.le_of_ble_eq_true rfl) (Nat.le_of_ble_eq_true rfl) ⟨Nat.le_refl _, Nat.le_add_right _ _⟩ ⟨_, rfl, (by decide), ⟨rfl, (Eq.trans (b := 1) rfl (by simp <;> omega)), rfl⟩⟩
  · refine tz_iload_n (pc := 10) dX12_bank_10 rfl rfl ?_
    refine tz_aload_n (pc := 11) dX12_bank_11 rfl rfl ?_
    refine tz_fI (pc := 12) (kz := 19) (v := 0) dX12_bank_12 fl_X12_328 i_164_19 rfl (zjv (z := 0) (F.at (by decide) z_164_19) rfl (by decide)) (fun _ => ?_)
    refine tz_icmp_gt (pc := 15) (tgt := 22) dX12_bank_15 (by decide) (by omega) (by decide) (fun h_15 => ?_) (fun h_15 => ?_)
    · refine tz_iconst (pc := 22) dX12_bank_22 ?_
      refine tz_iconst (pc := 23) dX12_bank_23 ?_
      refine tz_cV (pc := 24) (zm_right0 hl n _ _ (by decide) rfl (by decide)) vl_X12_334 dX12_bank_24 o_164 rfl rfl (Nat.le_of_ble_eq_true rfl) ⟨(Nat.le_of_ble_eq_true rfl), (Nat.le_of_ble_eq_true rfl)⟩ rfl rfl (Nat.le_of_ble_eq_true rfl) (Nat.le_of_ble_eq_true rfl) (fun r9 J_24 hq9 => ?_)
      obtain ⟨z_24, rfl, hz_24, rfl, rfl⟩ := hq9
      refine tz_if_neF (pc := 27) (tgt := 32) (by decide) dX12_bank_27 (by decide) (by decide) ?_
      refine tz_iconst (pc := 30) dX12_bank_30 ?_
      exact tz_iret (pc := 31) (z := 0) dX12_bank_31 rfl (Nat.le_of_ble_eq_true rfl) (Nat.le_of_ble_eq_true rfl) ⟨Nat.le_refl _, Nat.le_add_right _ _⟩ ⟨_, rfl, (by decide), ⟨rfl, (Eq.trans (b := 1) rfl (by simp <;> omega)), rfl⟩⟩
    · refine tz_iconst (pc := 18) dX12_bank_18 ?_
      refine tz_goto (pc := 19) (tgt := 23) dX12_bank_19 (by decide) ?_
      refine tz_iconst (pc := 23) dX12_bank_23 ?_
      refine tz_cV (pc := 24) (zm_right1 hl n _ _ (by decide) rfl) vl_X12_334 dX12_bank_24 o_164 rfl rfl (Nat.le_of_ble_eq_true rfl) ⟨(Nat.le_of_ble_eq_true rfl), (Nat.le_of_ble_eq_true rfl)⟩ rfl rfl (Nat.le_of_ble_eq_true rfl) (Nat.le_of_ble_eq_true rfl) (fun r9 J_24 hq9 => ?_)
      obtain ⟨z_24, rfl, hz_24, rfl, rfl⟩ := hq9
      refine tz_if_neT (pc := 27) (tgt := 32) (by decide) dX12_bank_27 (by decide) (by decide) ?_
      refine tz_aload_n (pc := 32) dX12_bank_32 rfl rfl ?_
      refine tz_iconst (pc := 33) dX12_bank_33 ?_
      refine tz_pI (pc := 34) (kz := 19) dX12_bank_34 fl_X12_328 i_164_19 rfl rfl (by decide) ?_
      refine tz_aload_n (pc := 37) dX12_bank_37 rfl rfl ?_
      refine tz_iload_n (pc := 38) dX12_bank_38 rfl rfl ?_
      refine tz_cV (pc := 39) (zm1_readsAll hl n _ _ (by omega) (by omega)) vl_X12_337 dX12_bank_39 o_164 rfl rfl (Nat.le_of_ble_eq_true rfl) ⟨(Nat.le_of_ble_eq_true rfl), (Nat.le_of_ble_eq_true rfl)⟩ rfl rfl (Nat.le_of_ble_eq_true rfl) (Nat.le_of_ble_eq_true rfl) (fun r9 J_39 hq9 => ?_)
      obtain ⟨rfl, ⟨bad_39, g_39⟩, f_39⟩ := hq9
      refine tz_aload_n (pc := 42) dX12_bank_42 rfl rfl ?_
      refine tz_fI (pc := 43) (kz := 43) (v := 0) dX12_bank_43 fl_X12_273 i_164_43 rfl bad_39 (fun _ => ?_)
      refine tz_if_eqT (pc := 46) (tgt := 64) (by decide) dX12_bank_46 (by decide) (by decide) ?_
      refine tz_aload_n (pc := 64) dX12_bank_64 rfl rfl ?_
      refine tz_sipush (pc := 65) dX12_bank_65 (by decide) ?_
      refine tz_iconst (pc := 68) dX12_bank_68 ?_
      refine tz_cV (pc := 69) (zm_moves hl n _ _ _ (by decide) (by decide) (by decide)) vl_X12_340 dX12_bank_69 o_164 rfl rfl (Nat.le_of_ble_eq_true rfl) ⟨(Nat.le_of_ble_eq_true rfl), (Nat.le_of_ble_eq_true rfl)⟩ rfl rfl (Nat.le_of_ble_eq_true rfl) (Nat.le_of_ble_eq_true rfl) (fun r9 J_69 hq9 => ?_)
      obtain ⟨rfl, f_69⟩ := hq9
      refine tz_aload_n (pc := 72) dX12_bank_72 rfl rfl ?_
      refine tz_bipush (pc := 73) dX12_bank_73 (by decide) ?_
      refine tz_iconst (pc := 75) dX12_bank_75 ?_
      refine tz_bipush (pc := 76) dX12_bank_76 (by decide) ?_
      refine tz_cV (pc := 78) (zm_copies hl n _ _ _ _ (by decide) (by decide) (by decide) (by decide) (by decide)) vl_X12_343 dX12_bank_78 o_164 rfl rfl (Nat.le_of_ble_eq_true rfl) ⟨(Nat.le_of_ble_eq_true rfl), (Nat.le_of_ble_eq_true rfl)⟩ rfl rfl (Nat.le_of_ble_eq_true rfl) (Nat.le_of_ble_eq_true rfl) (fun r9 J_78 hq9 => ?_)
      obtain ⟨rfl, rfl⟩ := hq9
      refine tz_aload_n (pc := 81) dX12_bank_81 rfl rfl ?_
      refine tz_aload_n (pc := 82) dX12_bank_82 rfl rfl ?_
      refine tz_fI (pc := 83) (kz := 44) (v := (J_39 164 44)) dX12_bank_83 fl_X12_287 i_164_44 rfl (Eq.trans (congrFun (f_69 164 rfl) 44) rfl) (fun r_83 => ?_)
      refine tz_pI (pc := 86) (kz := 9) dX12_bank_86 fl_X12_347 i_164_9 rfl rfl (by omega) ?_
      refine tz_iconst (pc := 89) dX12_bank_89 ?_
      refine tz_istore_n (pc := 90) (L2 := [_, _, _]) dX12_bank_90 rfl (by decide) rfl ?_
      have loop91 : ∀ (f9 : Nat) (i : Int) (J1 : zJ), ((10 - i).toNat) < f9 → (0 ≤ i ∧ i ≤ 10) → (zOf (zbut [169, 170, 171]) J1 (zup (zmv J_69 165 126 0 63) 164 9 (J_39 164 44))) → tz_At l G M_X12_bank (tb_rm 3 0 0) none (tb_ZM G 0 0 (zQ n 0 (zqi (fun z J' => z = (0) ∧ J' 164 8 = (if b = 0 then 0 else 1) ∧ J' 183 = zj I 183))) (zX n 0 zN)) 0 0 n J1 91 [some (.ref 164), some (zi b), some (zi i)] [] := by
        intro f9
        induction f9 with
        | zero => intro i J1 hm9; exact absurd hm9 (Nat.not_lt_zero _)
        | succ f9 ih91 =>
          intro i J1 hm91 hi fr91
          refine tz_iload_n (pc := 91) dX12_bank_91 rfl rfl ?_
          refine tz_bipush (pc := 92) dX12_bank_92 (by decide) ?_
          refine tz_icmp_ge (pc := 94) (tgt := 148) dX12_bank_94 (by decide) (by omega) (by decide) (fun h_94 => ?_) (fun h_94 => ?_)
          · refine tz_aload_n (pc := 148) dX12_bank_148 rfl rfl ?_
            refine tz_aload_n (pc := 149) dX12_bank_149 rfl rfl ?_
            refine tz_aload_n (pc := 150) dX12_bank_150 rfl rfl ?_
            refine tz_iconst (pc := 151) dX12_bank_151 ?_
            refine tz_dup_x1 (pc := 152) dX12_bank_152 rfl rfl ?_
            refine tz_pI (pc := 153) (kz := 14) dX12_bank_153 fl_X12_350 i_164_14 rfl rfl (by decide) ?_
            refine tz_dup_x1 (pc := 156) dX12_bank_156 rfl rfl ?_
            refine tz_pI (pc := 157) (kz := 11) dX12_bank_157 fl_X12_353 i_164_11 rfl rfl (by decide) ?_
            refine tz_pI (pc := 160) (kz := 10) dX12_bank_160 fl_X12_356 i_164_10 rfl rfl (by decide) ?_
            refine tz_iconst (pc := 163) dX12_bank_163 ?_
            exact tz_iret (pc := 164) (z := 0) dX12_bank_164 rfl (Nat.le_of_ble_eq_true rfl) (Nat.le_of_ble_eq_true rfl) ⟨Nat.le_refl _, Nat.le_add_right _ _⟩ ⟨_, rfl, (by decide), ⟨rfl, (Eq.trans (b := 0) (Eq.trans (congrFun (fr91 164 rfl) 8) (Eq.trans (congrFun (f_69 164 rfl) 8) (Eq.trans g_39 rfl))) (by simp <;> omega)), (Eq.trans (fr91 183 rfl) (Eq.trans (f_69 183 rfl) (Eq.trans (f_39 183 rfl) rfl)))⟩⟩
          · refine tz_aload_n (pc := 97) dX12_bank_97 rfl rfl ?_
            refine tz_fR (pc := 98) dX12_bank_98 fl_X12_22 r_164_4 ?_
            refine tz_iload_n (pc := 101) dX12_bank_101 rfl rfl ?_
            refine tz_aload_n (pc := 102) dX12_bank_102 rfl rfl ?_
            refine tz_fR (pc := 103) dX12_bank_103 fl_X12_22 r_164_4 ?_
            refine tz_bipush (pc := 106) dX12_bank_106 (by decide) ?_
            refine tz_iload_n (pc := 108) dX12_bank_108 rfl rfl ?_
            refine tz_iadd (pc := 109) (v := 10 + i) dX12_bank_109 rfl ?_
            refine tz_aL (pc := 110) (z := (10 + i)) (v := (J1 169 (10 + i))) dX12_bank_110 a_169 rfl (by omega) rfl (fun r_110 => ?_)
            refine tz_aS (pc := 111) (z := i) dX12_bank_111 a_169 rfl (by omega) (by omega) ?_
            refine tz_aload_n (pc := 112) dX12_bank_112 rfl rfl ?_
            refine tz_fR (pc := 113) dX12_bank_113 fl_X12_25 r_164_5 ?_
            refine tz_iload_n (pc := 116) dX12_bank_116 rfl rfl ?_
            refine tz_aload_n (pc := 117) dX12_bank_117 rfl rfl ?_
            refine tz_fR (pc := 118) dX12_bank_118 fl_X12_25 r_164_5 ?_
            refine tz_bipush (pc := 121) dX12_bank_121 (by decide) ?_
            refine tz_iload_n (pc := 123) dX12_bank_123 rfl rfl ?_
            refine tz_iadd (pc := 124) (v := 10 + i) dX12_bank_124 rfl ?_
            refine tz_aL (pc := 125) (z := (10 + i)) (v := (J1 170 (10 + i))) dX12_bank_125 a_170 rfl (by omega) rfl (fun r_125 => ?_)
            refine tz_aS (pc := 126) (z := i) dX12_bank_126 a_170 rfl (by omega) (by omega) ?_
            refine tz_aload_n (pc := 127) dX12_bank_127 rfl rfl ?_
            refine tz_fR (pc := 128) dX12_bank_128 fl_X12_28 r_164_6 ?_
            refine tz_iload_n (pc := 131) dX12_bank_131 rfl rfl ?_
            refine tz_aload_n (pc := 132) dX12_bank_132 rfl rfl ?_
            refine tz_fR (pc := 133) dX12_bank_133 fl_X12_28 r_164_6 ?_
            refine tz_bipush (pc := 136) dX12_bank_136 (by decide) ?_
            refine tz_iload_n (pc := 138) dX12_bank_138 rfl rfl ?_
            refine tz_iadd (pc := 139) (v := 10 + i) dX12_bank_139 rfl ?_
            refine tz_aL (pc := 140) (z := (10 + i)) (v := (J1 171 (10 + i))) dX12_bank_140 a_171 rfl (by omega) rfl (fun r_140 => ?_)
            refine tz_aS (pc := 141) (z := i) dX12_bank_141 a_171 rfl (by omega) (by omega) ?_
            refine tz_iinc (pc := 142) (z := i + 1) (L2 := [_, _, _]) dX12_bank_142 rfl (by omega) rfl ?_
            refine tz_goto (pc := 145) (tgt := 91) dX12_bank_145 (by decide) ?_
            exact ih91 (i + 1) _ (by omega) (by omega) (by repeat (first | exact fr91 | refine zOf.up rfl ?_))
      exact loop91 _ 0 _ (Nat.lt_succ_self _) (by omega) zOf.rf

set_option maxHeartbeats 4000000 in
set_option maxRecDepth 100000 in
theorem m1_years {l : Launch} {G : tb_G} (hl : l.stackTraces = false) (n : Nat) (I : tb_I) (F : tb_Fm I) (s : Int) (y : Int) (w : Int) (hr_s : -2147483648 ≤ s ∧ s < 2147483648) (hr_y : -2147483648 ≤ y ∧ y < 2147483648) (hr_w : -2147483648 ≤ w ∧ w < 2147483648)   : tz_Ok l G M_X12_years 5 0 0 [.ref 164, zi s, zi y, zi w] n (zj I) (zqi (fun z J' => z = (0) ∧ J' 164 8 = (if 0 ≤ w ∧ w ≤ 2 then (if 0 ≤ y ∧ y ≤ 20 then 0 else 2) else 1) ∧ J' 183 = zj I 183)) zN := by
  refine tz_Ok.of hl (by decide +kernel) rfl (tb_c1 rfl) (Nat.le_of_ble_eq_true rfl) ?_
  show tz_At l G M_X12_years (tb_rm 5 0 0) none (tb_ZM G 0 0 (zQ n 0 (zqi (fun z J' => z = (0) ∧ J' 164 8 = (if 0 ≤ w ∧ w ≤ 2 then (if 0 ≤ y ∧ y ≤ 20 then 0 else 2) else 1) ∧ J' 183 = zj I 183))) (zX n 0 zN)) 0 0 n (zj I) 0 [some (.ref 164), some (zi s), some (zi y), some (zi w), none, none, none, none, none] []
  refine tz_aload_n (pc := 0) dX12_years_0 rfl rfl ?_
  refine tz_iconst (pc := 1) dX12_years_1 ?_
  refine tz_pI (pc := 2) (kz := 8) dX12_years_2 fl_X12_68 i_164_8 rfl rfl (by decide) ?_
  refine tz_aload_n (pc := 5) dX12_years_5 rfl rfl ?_
  refine tz_iload_n (pc := 6) dX12_years_6 rfl rfl ?_
  refine tz_iconst (pc := 7) dX12_years_7 ?_
  refine tz_iconst (pc := 8) dX12_years_8 ?_
  refine tz_cS (pc := 9) (zm_within hl n _ _ _ _ (by omega) (by decide) (by decide)) sl_X12_283 dX12_years_9 rfl rfl (Nat.le_of_ble_eq_true rfl) ⟨(Nat.le_of_ble_eq_true rfl), (Nat.le_of_ble_eq_true rfl)⟩ rfl rfl (Nat.le_of_ble_eq_true rfl) (Nat.le_of_ble_eq_true rfl) (fun r9 J_9 hq9 => ?_)
  obtain ⟨z_9, rfl, hz_9, rfl, rfl⟩ := hq9
  by_cases hw_12 : 0 ≤ w ∧ w ≤ 2
  · rw [show (if 0 ≤ w ∧ w ≤ 2 then 1 else 0 : Int) = 1 from if_pos hw_12]
    refine tz_iconst (pc := 12) dX12_years_12 ?_
    refine tz_cV (pc := 13) (zm_right1 hl n _ _ (by decide) rfl) vl_X12_334 dX12_years_13 o_164 rfl rfl (Nat.le_of_ble_eq_true rfl) ⟨(Nat.le_of_ble_eq_true rfl), (Nat.le_of_ble_eq_true rfl)⟩ rfl rfl (Nat.le_of_ble_eq_true rfl) (Nat.le_of_ble_eq_true rfl) (fun r9 J_13 hq9 => ?_)
    obtain ⟨z_13, rfl, hz_13, rfl, rfl⟩ := hq9
    refine tz_if_eqF (pc := 16) (tgt := 34) (by decide) dX12_years_16 (by decide) (by decide) ?_
    refine tz_aload_n (pc := 19) dX12_years_19 rfl rfl ?_
    refine tz_iload_n (pc := 20) dX12_years_20 rfl rfl ?_
    refine tz_iconst (pc := 21) dX12_years_21 ?_
    refine tz_bipush (pc := 22) dX12_years_22 (by decide) ?_
    refine tz_cS (pc := 24) (zm_within hl n _ _ _ _ (by omega) (by decide) (by decide)) sl_X12_283 dX12_years_24 rfl rfl (Nat.le_of_ble_eq_true rfl) ⟨(Nat.le_of_ble_eq_true rfl), (Nat.le_of_ble_eq_true rfl)⟩ rfl rfl (Nat.le_of_ble_eq_true rfl) (Nat.le_of_ble_eq_true rfl) (fun r9 J_24 hq9 => ?_)
    obtain ⟨z_24, rfl, hz_24, rfl, rfl⟩ := hq9
    by_cases hw_27 : 0 ≤ y ∧ y ≤ 20
    · rw [show (if 0 ≤ y ∧ y ≤ 20 then 1 else 0 : Int) = 1 from if_pos hw_27]
      refine tz_iconst (pc := 27) dX12_years_27 ?_
      refine tz_cV (pc := 28) (zm_right1 hl n _ _ (by decide) rfl) vl_X12_334 dX12_years_28 o_164 rfl rfl (Nat.le_of_ble_eq_true rfl) ⟨(Nat.le_of_ble_eq_true rfl), (Nat.le_of_ble_eq_true rfl)⟩ rfl rfl (Nat.le_of_ble_eq_true rfl) (Nat.le_of_ble_eq_true rfl) (fun r9 J_28 hq9 => ?_)
      obtain ⟨z_28, rfl, hz_28, rfl, rfl⟩ := hq9
      refine tz_if_neT (pc := 31) (tgt := 36) (by decide) dX12_years_31 (by decide) (by decide) ?_
      refine tz_aload_n (pc := 36) dX12_years_36 rfl rfl ?_
      refine tz_cV (pc := 37) (zm_begins hl n _) vl_X12_400 dX12_years_37 o_164 rfl rfl (Nat.le_of_ble_eq_true rfl) ⟨(Nat.le_of_ble_eq_true rfl), (Nat.le_of_ble_eq_true rfl)⟩ rfl rfl (Nat.le_of_ble_eq_true rfl) (Nat.le_of_ble_eq_true rfl) (fun r9 J_37 hq9 => ?_)
      obtain ⟨rfl, rfl⟩ := hq9
      refine tz_aload_n (pc := 40) dX12_years_40 rfl rfl ?_
      refine tz_iload_n (pc := 41) dX12_years_41 rfl rfl ?_
      refine tz_pI (pc := 42) (kz := 46) dX12_years_42 fl_X12_423 i_164_46 rfl rfl (by omega) ?_
      refine tz_iconst (pc := 45) dX12_years_45 ?_
      refine tz_istore (pc := 46) (L2 := [_, _, _, _, _, _, _, _, _]) dX12_years_46 (by decide) rfl ?_
      refine tz_iconst (pc := 48) dX12_years_48 ?_
      refine tz_istore (pc := 49) (L2 := [_, _, _, _, _, _, _, _, _]) dX12_years_49 (by decide) rfl ?_
      refine tz_iconst (pc := 51) dX12_years_51 ?_
      refine tz_istore (pc := 52) (L2 := [_, _, _, _, _, _, _, _, _]) dX12_years_52 (by decide) rfl ?_
      have loop54 : ∀ (f9 : Nat) (k : Int) (m : Int) (d7 : Option Value) (d8 : Option Value) (J1 : zJ), ((y - k).toNat) < f9 → (0 ≤ k ∧ k ≤ y) → (zMV m J1) → (m ≤ k) → (∀ q, ¬ q = 46 → J1 164 q = (zup (zup (zup (zup (zmv (zup (zj I) 164 8 0) 165 0 63 63) 164 21 0) 164 33 0) 164 34 0) 164 46 s) 164 q) → (∀ q, ¬ q = 0 → J1 165 q = (zup (zup (zup (zup (zmv (zup (zj I) 164 8 0) 165 0 63 63) 164 21 0) 164 33 0) 164 34 0) 164 46 s) 165 q) → (J1 183 = (zup (zup (zup (zup (zmv (zup (zj I) 164 8 0) 165 0 63 63) 164 21 0) 164 33 0) 164 34 0) 164 46 s) 183) → tz_At l G M_X12_years (tb_rm 5 0 0) none (tb_ZM G 0 0 (zQ n 0 (zqi (fun z J' => z = (0) ∧ J' 164 8 = (if 0 ≤ w ∧ w ≤ 2 then (if 0 ≤ y ∧ y ≤ 20 then 0 else 2) else 1) ∧ J' 183 = zj I 183))) (zX n 0 zN)) 0 0 n J1 54 [some (.ref 164), some (zi s), some (zi y), some (zi w), some (zi 0), some (zi 1), some (zi k), d7, d8] [] := by
        intro f9
        induction f9 with
        | zero => intro k m d7 d8 J1 hm9; exact absurd hm9 (Nat.not_lt_zero _)
        | succ f9 ih54 =>
          intro k m d7 d8 J1 hm54 hk MV hmk g164 g165 g183
          refine tz_iload (pc := 54) dX12_years_54 rfl ?_
          refine tz_iload_n (pc := 56) dX12_years_56 rfl rfl ?_
          refine tz_icmp_ge (pc := 57) (tgt := 134) dX12_years_57 (by decide) (by omega) (by omega) (fun h_57 => ?_) (fun h_57 => ?_)
          · refine tz_iload_n (pc := 134) dX12_years_134 rfl rfl ?_
            refine tz_if_ne (pc := 135) (tgt := 143) dX12_years_135 (by decide) (by omega) (fun h_135 => ?_) (fun h_135 => ?_)
            · refine tz_iload_n (pc := 143) dX12_years_143 rfl rfl ?_
              refine tz_iconst (pc := 144) dX12_years_144 ?_
              refine tz_icmp_ne (pc := 145) (tgt := 166) dX12_years_145 (by decide) (by omega) (by decide) (fun h_145 => ?_) (fun h_145 => ?_)
              · refine tz_aload_n (pc := 166) dX12_years_166 rfl rfl ?_
                refine tz_fR (pc := 167) dX12_years_167 fl_X12_9 r_164_0 ?_
                refine tz_bipush (pc := 170) dX12_years_170 (by decide) ?_
                refine tz_aL (pc := 172) (z := 62) (v := 0) dX12_years_172 a_165 rfl (by decide) (Eq.trans (g165 62 (by decide)) (zjv (z := 0) (F.at (by decide) z_165_62) rfl (by decide))) (fun _ => ?_)
                refine tz_aload_n (pc := 173) dX12_years_173 rfl rfl ?_
                refine tz_fR (pc := 174) dX12_years_174 fl_X12_9 r_164_0 ?_
                refine tz_bipush (pc := 177) dX12_years_177 (by decide) ?_
                refine tz_aL (pc := 179) (z := 125) (v := 0) dX12_years_179 a_165 rfl (by decide) (Eq.trans (g165 125 (by decide)) (zjv (z := 0) (F.at (by decide) z_165_62) rfl (by decide))) (fun _ => ?_)
                refine tz_isub (pc := 180) (v := 0) dX12_years_180 (by decide) ?_
                refine tz_istore (pc := 181) (L2 := [_, _, _, _, _, _, _, _, _]) dX12_years_181 (by decide) rfl ?_
                refine tz_aload_n (pc := 183) dX12_years_183 rfl rfl ?_
                refine tz_bipush (pc := 184) dX12_years_184 (by decide) ?_
                refine tz_iconst (pc := 186) dX12_years_186 ?_
                refine tz_bipush (pc := 187) dX12_years_187 (by decide) ?_
                refine tz_cV (pc := 189) (zm_copies hl n _ _ _ _ (by decide) (by decide) (by decide) (by decide) (by decide)) vl_X12_343 dX12_years_189 o_164 rfl rfl (Nat.le_of_ble_eq_true rfl) ⟨(Nat.le_of_ble_eq_true rfl), (Nat.le_of_ble_eq_true rfl)⟩ rfl rfl (Nat.le_of_ble_eq_true rfl) (Nat.le_of_ble_eq_true rfl) (fun r9 J_189 hq9 => ?_)
                obtain ⟨rfl, rfl⟩ := hq9
                refine tz_iload (pc := 192) dX12_years_192 rfl ?_
                refine tz_if_eqF (pc := 194) (tgt := 202) (by decide) dX12_years_194 (by decide) (by decide) ?_
                refine tz_iload (pc := 197) dX12_years_197 rfl ?_
                refine tz_goto (pc := 199) (tgt := 203) dX12_years_199 (by decide) ?_
                exact tz_iret (pc := 203) (z := 0) dX12_years_203 rfl (Nat.le_of_ble_eq_true rfl) (Nat.le_of_ble_eq_true rfl) ⟨Nat.le_refl _, Nat.le_add_right _ _⟩ ⟨_, rfl, (by decide), ⟨rfl, (Eq.trans (b := 0) (Eq.trans (g164 8 (by decide)) rfl) (by simp [*])), (Eq.trans g183 rfl)⟩⟩
              · refine tz_aload_n (pc := 148) dX12_years_148 rfl rfl ?_
                refine tz_fR (pc := 149) dX12_years_149 fl_X12_9 r_164_0 ?_
                refine tz_bipush (pc := 152) dX12_years_152 (by decide) ?_
                refine tz_aL (pc := 154) (z := 61) (v := 0) dX12_years_154 a_165 rfl (by decide) (Eq.trans (g165 61 (by decide)) (zjv (z := 0) (F.at (by decide) z_165_61) rfl (by decide))) (fun _ => ?_)
                refine tz_aload_n (pc := 155) dX12_years_155 rfl rfl ?_
                refine tz_fR (pc := 156) dX12_years_156 fl_X12_9 r_164_0 ?_
                refine tz_bipush (pc := 159) dX12_years_159 (by decide) ?_
                refine tz_aL (pc := 161) (z := 124) (v := 0) dX12_years_161 a_165 rfl (by decide) (Eq.trans (g165 124 (by decide)) (zjv (z := 0) (F.at (by decide) z_165_61) rfl (by decide))) (fun _ => ?_)
                refine tz_isub (pc := 162) (v := 0) dX12_years_162 (by decide) ?_
                refine tz_goto (pc := 163) (tgt := 181) dX12_years_163 (by decide) ?_
                refine tz_istore (pc := 181) (L2 := [_, _, _, _, _, _, _, _, _]) dX12_years_181 (by decide) rfl ?_
                refine tz_aload_n (pc := 183) dX12_years_183 rfl rfl ?_
                refine tz_bipush (pc := 184) dX12_years_184 (by decide) ?_
                refine tz_iconst (pc := 186) dX12_years_186 ?_
                refine tz_bipush (pc := 187) dX12_years_187 (by decide) ?_
                refine tz_cV (pc := 189) (zm_copies hl n _ _ _ _ (by decide) (by decide) (by decide) (by decide) (by decide)) vl_X12_343 dX12_years_189 o_164 rfl rfl (Nat.le_of_ble_eq_true rfl) ⟨(Nat.le_of_ble_eq_true rfl), (Nat.le_of_ble_eq_true rfl)⟩ rfl rfl (Nat.le_of_ble_eq_true rfl) (Nat.le_of_ble_eq_true rfl) (fun r9 J_189 hq9 => ?_)
                obtain ⟨rfl, rfl⟩ := hq9
                refine tz_iload (pc := 192) dX12_years_192 rfl ?_
                refine tz_if_eqF (pc := 194) (tgt := 202) (by decide) dX12_years_194 (by decide) (by decide) ?_
                refine tz_iload (pc := 197) dX12_years_197 rfl ?_
                refine tz_goto (pc := 199) (tgt := 203) dX12_years_199 (by decide) ?_
                exact tz_iret (pc := 203) (z := 0) dX12_years_203 rfl (Nat.le_of_ble_eq_true rfl) (Nat.le_of_ble_eq_true rfl) ⟨Nat.le_refl _, Nat.le_add_right _ _⟩ ⟨_, rfl, (by decide), ⟨rfl, (Eq.trans (b := 0) (Eq.trans (g164 8 (by decide)) rfl) (by simp [*])), (Eq.trans g183 rfl)⟩⟩
            · refine tz_iload (pc := 138) dX12_years_138 rfl ?_
              refine tz_goto (pc := 140) (tgt := 181) dX12_years_140 (by decide) ?_
              refine tz_istore (pc := 181) (L2 := [_, _, _, _, _, _, _, _, _]) dX12_years_181 (by decide) rfl ?_
              refine tz_aload_n (pc := 183) dX12_years_183 rfl rfl ?_
              refine tz_bipush (pc := 184) dX12_years_184 (by decide) ?_
              refine tz_iconst (pc := 186) dX12_years_186 ?_
              refine tz_bipush (pc := 187) dX12_years_187 (by decide) ?_
              refine tz_cV (pc := 189) (zm_copies hl n _ _ _ _ (by decide) (by decide) (by decide) (by decide) (by decide)) vl_X12_343 dX12_years_189 o_164 rfl rfl (Nat.le_of_ble_eq_true rfl) ⟨(Nat.le_of_ble_eq_true rfl), (Nat.le_of_ble_eq_true rfl)⟩ rfl rfl (Nat.le_of_ble_eq_true rfl) (Nat.le_of_ble_eq_true rfl) (fun r9 J_189 hq9 => ?_)
              obtain ⟨rfl, rfl⟩ := hq9
              refine tz_iload (pc := 192) dX12_years_192 rfl ?_
              refine tz_if_eqF (pc := 194) (tgt := 202) (by decide) dX12_years_194 (by decide) (by decide) ?_
              refine tz_iload (pc := 197) dX12_years_197 rfl ?_
              refine tz_goto (pc := 199) (tgt := 203) dX12_years_199 (by decide) ?_
              exact tz_iret (pc := 203) (z := 0) dX12_years_203 rfl (Nat.le_of_ble_eq_true rfl) (Nat.le_of_ble_eq_true rfl) ⟨Nat.le_refl _, Nat.le_add_right _ _⟩ ⟨_, rfl, (by decide), ⟨rfl, (Eq.trans (b := 0) (Eq.trans (g164 8 (by decide)) rfl) (by simp [*])), (Eq.trans g183 rfl)⟩⟩
          · refine tz_iload (pc := 60) dX12_years_60 rfl ?_
            refine tz_if_eqF (pc := 62) (tgt := 134) (by decide) dX12_years_62 (by decide) (by decide) ?_
            refine tz_aload_n (pc := 65) dX12_years_65 rfl rfl ?_
            refine tz_iconst (pc := 66) dX12_years_66 ?_
            refine tz_cV (pc := 67) (zm1_drawn hl n _ _ (by decide) m MV (by omega)) vl_X12_430 dX12_years_67 o_164 rfl rfl (Nat.le_of_ble_eq_true rfl) ⟨(Nat.le_of_ble_eq_true rfl), (Nat.le_of_ble_eq_true rfl)⟩ rfl rfl (Nat.le_of_ble_eq_true rfl) (Nat.le_of_ble_eq_true rfl) (fun r9 J_67 hq9 => ?_)
            obtain ⟨z_67, rfl, hz_67, m_67, hp1_67, hp2_67, hp3_67, hp4_67, hp5_67⟩ := hq9
            refine tz_istore (pc := 70) (L2 := [_, _, _, _, _, _, _, _, _]) dX12_years_70 (by decide) rfl ?_
            refine tz_aload_n (pc := 72) dX12_years_72 rfl rfl ?_
            refine tz_fI (pc := 73) (kz := 21) (v := 0) dX12_years_73 fl_X12_92 i_164_21 rfl (Eq.trans (hp3_67 21 (by decide)) (Eq.trans (g164 21 (by decide)) rfl)) (fun _ => ?_)
            refine tz_if_eqT (pc := 76) (tgt := 83) (by decide) dX12_years_76 (by decide) (by decide) ?_
            refine tz_aload_n (pc := 83) dX12_years_83 rfl rfl ?_
            refine tz_iload (pc := 84) dX12_years_84 rfl ?_
            refine tz_cV (pc := 86) (zm1_normalV hl n _ _ hz_67 (by rw [hp1_67.1.1]; omega) (by rw [hp1_67.1.1, Int.zero_add]; exact hp1_67.2.2.2 _ hp2_67.2.2.1 hp2_67.2.2.2)) vl_X12_221 dX12_years_86 o_164 rfl rfl (Nat.le_of_ble_eq_true rfl) ⟨(Nat.le_of_ble_eq_true rfl), (Nat.le_of_ble_eq_true rfl)⟩ rfl rfl (Nat.le_of_ble_eq_true rfl) (Nat.le_of_ble_eq_true rfl) (fun r9 J_86 hq9 => ?_)
            obtain ⟨z_86, rfl, hz_86, rfl, rfl⟩ := hq9
            refine tz_istore (pc := 89) (L2 := [_, _, _, _, _, _, _, _, _]) dX12_years_89 (by decide) rfl ?_
            refine tz_aload_n (pc := 91) dX12_years_91 rfl rfl ?_
            refine tz_cV (pc := 92) (zm_isStop hl n _) vl_X12_211 dX12_years_92 o_164 rfl rfl (Nat.le_of_ble_eq_true rfl) ⟨(Nat.le_of_ble_eq_true rfl), (Nat.le_of_ble_eq_true rfl)⟩ rfl rfl (Nat.le_of_ble_eq_true rfl) (Nat.le_of_ble_eq_true rfl) (fun r9 J_92 hq9 => ?_)
            obtain ⟨z_92, rfl, hz_92, rfl, hv_92⟩ := hq9
            obtain rfl : 0 = z_92 := by rw [← hv_92, if_neg (by rw [hp1_67.1.2.2.2.1, hp1_67.1.2.2.2.2.2]; decide)]
            refine tz_if_neF (pc := 95) (tgt := 102) (by decide) dX12_years_95 (by decide) (by decide) ?_
            refine tz_iconst (pc := 98) dX12_years_98 ?_
            refine tz_goto (pc := 99) (tgt := 103) dX12_years_99 (by decide) ?_
            refine tz_istore (pc := 103) (L2 := [_, _, _, _, _, _, _, _, _]) dX12_years_103 (by decide) rfl ?_
            refine tz_iload (pc := 105) dX12_years_105 rfl ?_
            refine tz_if_eqF (pc := 107) (tgt := 128) (by decide) dX12_years_107 (by decide) (by decide) ?_
            refine tz_iload (pc := 110) dX12_years_110 rfl ?_
            refine tz_aload_n (pc := 112) dX12_years_112 rfl rfl ?_
            refine tz_iload (pc := 113) dX12_years_113 rfl ?_
            refine tz_cV (pc := 115) (zm1_weightV hl n _ _ hz_67 (by rw [hp1_67.1.1]; omega) (by rw [hp1_67.1.1, Int.zero_add]; exact hp1_67.2.2.2 _ hp2_67.2.2.1 hp2_67.2.2.2)) vl_X12_120 dX12_years_115 o_164 rfl rfl (Nat.le_of_ble_eq_true rfl) ⟨(Nat.le_of_ble_eq_true rfl), (Nat.le_of_ble_eq_true rfl)⟩ rfl rfl (Nat.le_of_ble_eq_true rfl) (Nat.le_of_ble_eq_true rfl) (fun r9 J_115 hq9 => ?_)
            obtain ⟨z_115, rfl, hz_115, rfl, rfl⟩ := hq9
            refine tz_aload_n (pc := 118) dX12_years_118 rfl rfl ?_
            refine tz_iload (pc := 119) dX12_years_119 rfl ?_
            refine tz_cV (pc := 121) (zm1_weightV hl n _ _ hz_67 (by rw [hp1_67.1.1]; omega) (by rw [hp1_67.1.1, Int.zero_add]; exact hp1_67.2.2.2 _ hp2_67.2.2.1 hp2_67.2.2.2)) vl_X12_120 dX12_years_121 o_164 rfl rfl (Nat.le_of_ble_eq_true rfl) ⟨(Nat.le_of_ble_eq_true rfl), (Nat.le_of_ble_eq_true rfl)⟩ rfl rfl (Nat.le_of_ble_eq_true rfl) (Nat.le_of_ble_eq_true rfl) (fun r9 J_121 hq9 => ?_)
            obtain ⟨z_121, rfl, hz_121, rfl, rfl⟩ := hq9
            refine tz_isub (pc := 124) (v := 0) dX12_years_124 (by decide) ?_
            refine tz_iadd (pc := 125) (v := 0) dX12_years_125 (by decide) ?_
            refine tz_istore (pc := 126) (L2 := [_, _, _, _, _, _, _, _, _]) dX12_years_126 (by decide) rfl ?_
            refine tz_iinc (pc := 128) (z := k + 1) (L2 := [_, _, _, _, _, _, _, _, _]) dX12_years_128 rfl (by omega) rfl ?_
            refine tz_goto (pc := 131) (tgt := 54) dX12_years_131 (by decide) ?_
            exact ih54 (k + 1) m_67 _ _ _ (by omega) (by omega) hp1_67 (by omega) (fun q hq => (hp3_67 q hq).trans (g164 q hq)) (fun q hq => (hp4_67 q hq).trans (g165 q hq)) ((hp5_67 183 rfl).trans g183)
      exact loop54 _ 0 0 none none _ (Nat.lt_succ_self _) (by omega) (zm1_MV0 (zjv (z := 0) (F.at (by decide) z_164_15) rfl (by decide)) (zjv (z := 0) (F.at (by decide) z_164_16) rfl (by decide)) (zjv (z := 0) (F.at (by decide) z_164_17) rfl (by decide)) rfl (zjv (z := 0) (F.at (by decide) z_164_9) rfl (by decide)) rfl (zjv (z := 0) (F.at (by decide) z_165_0) rfl (by decide))) (by decide) (fun _ _ => rfl) (fun _ _ => rfl) rfl
    · rw [show (if 0 ≤ y ∧ y ≤ 20 then 1 else 0 : Int) = 0 from if_neg hw_27]
      refine tz_iconst (pc := 27) dX12_years_27 ?_
      refine tz_cV (pc := 28) (zm_right0 hl n _ _ (by decide) rfl (by decide)) vl_X12_334 dX12_years_28 o_164 rfl rfl (Nat.le_of_ble_eq_true rfl) ⟨(Nat.le_of_ble_eq_true rfl), (Nat.le_of_ble_eq_true rfl)⟩ rfl rfl (Nat.le_of_ble_eq_true rfl) (Nat.le_of_ble_eq_true rfl) (fun r9 J_28 hq9 => ?_)
      obtain ⟨z_28, rfl, hz_28, rfl, rfl⟩ := hq9
      refine tz_if_neF (pc := 31) (tgt := 36) (by decide) dX12_years_31 (by decide) (by decide) ?_
      refine tz_iconst (pc := 34) dX12_years_34 ?_
      exact tz_iret (pc := 35) (z := 0) dX12_years_35 rfl (Nat.le_of_ble_eq_true rfl) (Nat.le_of_ble_eq_true rfl) ⟨Nat.le_refl _, Nat.le_add_right _ _⟩ ⟨_, rfl, (by decide), ⟨rfl, (Eq.trans (b := 2) rfl (by simp [*])), rfl⟩⟩
  · rw [show (if 0 ≤ w ∧ w ≤ 2 then 1 else 0 : Int) = 0 from if_neg hw_12]
    refine tz_iconst (pc := 12) dX12_years_12 ?_
    refine tz_cV (pc := 13) (zm_right0 hl n _ _ (by decide) rfl (by decide)) vl_X12_334 dX12_years_13 o_164 rfl rfl (Nat.le_of_ble_eq_true rfl) ⟨(Nat.le_of_ble_eq_true rfl), (Nat.le_of_ble_eq_true rfl)⟩ rfl rfl (Nat.le_of_ble_eq_true rfl) (Nat.le_of_ble_eq_true rfl) (fun r9 J_13 hq9 => ?_)
    obtain ⟨z_13, rfl, hz_13, rfl, rfl⟩ := hq9
    refine tz_if_eqT (pc := 16) (tgt := 34) (by decide) dX12_years_16 (by decide) (by decide) ?_
    refine tz_iconst (pc := 34) dX12_years_34 ?_
    exact tz_iret (pc := 35) (z := 0) dX12_years_35 rfl (Nat.le_of_ble_eq_true rfl) (Nat.le_of_ble_eq_true rfl) ⟨Nat.le_refl _, Nat.le_add_right _ _⟩ ⟨_, rfl, (by decide), ⟨rfl, (Eq.trans (b := 1) rfl (by simp [*])), rfl⟩⟩

