set_option maxHeartbeats 4000000 in
set_option maxRecDepth 100000 in
theorem c_made {l : Launch} {G : tb_G} (hl : l.stackTraces = false) (n : Nat) (J : zJ) (h : Int) (a : Int) (b : Int) (c : Int) (hr_h : -2147483648 ≤ h ∧ h < 2147483648) (hr_a : -2147483648 ≤ a ∧ a < 2147483648) (hr_b : -2147483648 ≤ b ∧ b < 2147483648) (hr_c : -2147483648 ≤ c ∧ c < 2147483648) (m : Int) (C : CT J m) (hm : J 6 12 = m) (hh : -8 ≤ h ∧ h < J 1 3) (hlt : ltA (arh (J 3) h) a b c m) : tz_Ok l G M_X9_made 2 0 0 [.ref 6, zi h, zi a, zi b, zi c] n J (zqi (fun z J' => madeP J m h a b c z J')) zN := by
  refine tz_Ok.of hl (by decide +kernel) rfl (tb_c1 rfl) (Nat.le_of_ble_eq_true rfl) ?_
  show tz_At l G M_X9_made (tb_rm 2 0 0) none (tb_ZM G 0 0 (zQ n 0 (zqi (fun z J' => madeP J m h a b c z J'))) (zX n 0 zN)) 0 0 n J 0 [some (.ref 6), some (zi h), some (zi a), some (zi b), some (zi c), none, none, none, none, none, none] []
  have ht := C.told
  have hA := arh_rg C.1.1.1 hh.2
  refine tz_aload_n (pc := 0) dX9_made_0 rfl rfl ?_
  refine tz_fI (pc := 1) (kz := 12) (v := m) dX9_made_1 fl_X9_45 i_6_12 rfl hm (fun r_1 => ?_)
  refine tz_istore (pc := 4) (L2 := [_, _, _, _, _, _, _, _, _, _, _]) dX9_made_4 (by decide) rfl ?_
  refine tz_aload_n (pc := 6) dX9_made_6 rfl rfl ?_
  refine tz_fR (pc := 7) dX9_made_7 fl_X9_49 r_6_0 ?_
  refine tz_iload_n (pc := 10) dX9_made_10 rfl rfl ?_
  refine tz_cV (pc := 11) (c_syHas hl n _ _ hr_h) vl_X9_63 dX9_made_11 o_1 rfl rfl (Nat.le_of_ble_eq_true rfl) ⟨(Nat.le_of_ble_eq_true rfl), (Nat.le_of_ble_eq_true rfl)⟩ rfl rfl (Nat.le_of_ble_eq_true rfl) (Nat.le_of_ble_eq_true rfl) (fun r9 J_11 hq9 => ?_)
  obtain ⟨z_11, rfl, hz_11, rfl, hv_11⟩ := hq9
  have he : (z_11 = 0 ∧ h < 0) ∨ (z_11 = 1 ∧ 0 ≤ h) := by rw [← hv_11]; split <;> omega
  refine tz_istore (pc := 14) (L2 := [_, _, _, _, _, _, _, _, _, _, _]) dX9_made_14 (by decide) rfl ?_
  refine tz_iload (pc := 16) dX9_made_16 rfl ?_
  have join34 : ∀ (A : Int), (-2147483648 ≤ A ∧ A < 2147483648) → (A = arh (J 3) h) → tz_At l G M_X9_made (tb_rm 2 0 0) none (tb_ZM G 0 0 (zQ n 0 (zqi (fun z J' => madeP J m h a b c z J'))) (zX n 0 zN)) 0 0 n J 34 [some (.ref 6), some (zi h), some (zi a), some (zi b), some (zi c), some (zi m), some (zi z_11), none, none, none, none] (zi A :: []) := by
    intro A hr_A
    intro hj_34
    rw [← hj_34] at hA hlt
    have hsw := C.1.2 h
    refine tz_istore (pc := 34) (L2 := [_, _, _, _, _, _, _, _, _, _, _]) dX9_made_34 (by decide) rfl ?_
    refine tz_aload_n (pc := 36) dX9_made_36 rfl rfl ?_
    refine tz_fR (pc := 37) dX9_made_37 fl_X9_11 r_6_1 ?_
    refine tz_iload (pc := 40) dX9_made_40 rfl ?_
    refine tz_iload_n (pc := 42) dX9_made_42 rfl rfl ?_
    refine tz_aS (pc := 43) (z := m) dX9_made_43 a_7 rfl (by omega) (by omega) ?_
    refine tz_aload_n (pc := 44) dX9_made_44 rfl rfl ?_
    refine tz_fR (pc := 45) dX9_made_45 fl_X9_15 r_6_2 ?_
    refine tz_iload (pc := 48) dX9_made_48 rfl ?_
    refine tz_iload (pc := 50) dX9_made_50 rfl ?_
    refine tz_aS (pc := 52) (z := m) dX9_made_52 a_8 rfl (by omega) (by omega) ?_
    refine tz_aload_n (pc := 53) dX9_made_53 rfl rfl ?_
    refine tz_fR (pc := 54) dX9_made_54 fl_X9_24 r_6_5 ?_
    refine tz_iload (pc := 57) dX9_made_57 rfl ?_
    refine tz_iload (pc := 59) dX9_made_59 rfl ?_
    have join77 : ∀ (w : Int), (-2147483648 ≤ w ∧ w < 2147483648) → (w = if h < 0 then 1 else J 4 h) → tz_At l G M_X9_made (tb_rm 2 0 0) none (tb_ZM G 0 0 (zQ n 0 (zqi (fun z J' => madeP J m h a b c z J'))) (zX n 0 zN)) 0 0 n (zup (zup J 7 m h) 8 m A) 77 [some (.ref 6), some (zi h), some (zi a), some (zi b), some (zi c), some (zi m), some (zi z_11), some (zi A), none, none, none] (zi w :: zi m :: .ref 11 :: []) := by
      intro w hr_w
      intro hj_77
      have hw : 1 ≤ w ∧ w ≤ 9 := by rw [hj_77]; split; omega; exact hsw (by omega) hh.2
      refine tz_aS (pc := 77) (z := m) dX9_made_77 a_11 rfl (by omega) (by omega) ?_
      refine tz_aload_n (pc := 78) dX9_made_78 rfl rfl ?_
      refine tz_fR (pc := 79) dX9_made_79 fl_X9_18 r_6_3 ?_
      refine tz_iload (pc := 82) dX9_made_82 rfl ?_
      refine tz_iconst (pc := 84) dX9_made_84 ?_
      refine tz_imul (pc := 85) (v := m * 3) dX9_made_85 rfl ?_
      refine tz_iload (pc := 86) dX9_made_86 rfl ?_
      have join96 : ∀ (v1 : Int), (-2147483648 ≤ v1 ∧ v1 < 2147483648) → (v1 = if 0 < A then a else -1) → tz_At l G M_X9_made (tb_rm 2 0 0) none (tb_ZM G 0 0 (zQ n 0 (zqi (fun z J' => madeP J m h a b c z J'))) (zX n 0 zN)) 0 0 n (zup (zup (zup J 7 m h) 8 m A) 11 m w) 96 [some (.ref 6), some (zi h), some (zi a), some (zi b), some (zi c), some (zi m), some (zi z_11), some (zi A), none, none, none] (zi v1 :: zi (m * 3) :: .ref 9 :: []) := by
        intro v1 hr_v1
        intro hj_96
        refine tz_aS (pc := 96) (z := (m * 3)) dX9_made_96 a_9 rfl (by omega) (by omega) ?_
        refine tz_aload_n (pc := 97) dX9_made_97 rfl rfl ?_
        refine tz_fR (pc := 98) dX9_made_98 fl_X9_18 r_6_3 ?_
        refine tz_iload (pc := 101) dX9_made_101 rfl ?_
        refine tz_iconst (pc := 103) dX9_made_103 ?_
        refine tz_imul (pc := 104) (v := m * 3) dX9_made_104 rfl ?_
        refine tz_iconst (pc := 105) dX9_made_105 ?_
        refine tz_iadd (pc := 106) (v := (m * 3) + 1) dX9_made_106 rfl ?_
        refine tz_iload (pc := 107) dX9_made_107 rfl ?_
        refine tz_iconst (pc := 109) dX9_made_109 ?_
        have join118 : ∀ (v2 : Int), (-2147483648 ≤ v2 ∧ v2 < 2147483648) → (v2 = if 1 < A then b else -1) → tz_At l G M_X9_made (tb_rm 2 0 0) none (tb_ZM G 0 0 (zQ n 0 (zqi (fun z J' => madeP J m h a b c z J'))) (zX n 0 zN)) 0 0 n (zup (zup (zup (zup J 7 m h) 8 m A) 11 m w) 9 (m * 3) v1) 118 [some (.ref 6), some (zi h), some (zi a), some (zi b), some (zi c), some (zi m), some (zi z_11), some (zi A), none, none, none] (zi v2 :: zi ((m * 3) + 1) :: .ref 9 :: []) := by
          intro v2 hr_v2
          intro hj_118
          refine tz_aS (pc := 118) (z := ((m * 3) + 1)) dX9_made_118 a_9 rfl (by omega) (by omega) ?_
          refine tz_aload_n (pc := 119) dX9_made_119 rfl rfl ?_
          refine tz_fR (pc := 120) dX9_made_120 fl_X9_18 r_6_3 ?_
          refine tz_iload (pc := 123) dX9_made_123 rfl ?_
          refine tz_iconst (pc := 125) dX9_made_125 ?_
          refine tz_imul (pc := 126) (v := m * 3) dX9_made_126 rfl ?_
          refine tz_iconst (pc := 127) dX9_made_127 ?_
          refine tz_iadd (pc := 128) (v := (m * 3) + 2) dX9_made_128 rfl ?_
          refine tz_iload (pc := 129) dX9_made_129 rfl ?_
          refine tz_iconst (pc := 131) dX9_made_131 ?_
          have join141 : ∀ (v3 : Int), (-2147483648 ≤ v3 ∧ v3 < 2147483648) → (v3 = if 2 < A then c else -1) → tz_At l G M_X9_made (tb_rm 2 0 0) none (tb_ZM G 0 0 (zQ n 0 (zqi (fun z J' => madeP J m h a b c z J'))) (zX n 0 zN)) 0 0 n (zup (zup (zup (zup (zup J 7 m h) 8 m A) 11 m w) 9 (m * 3) v1) 9 ((m * 3) + 1) v2) 141 [some (.ref 6), some (zi h), some (zi a), some (zi b), some (zi c), some (zi m), some (zi z_11), some (zi A), none, none, none] (zi v3 :: zi ((m * 3) + 2) :: .ref 9 :: []) := by
            intro v3 hr_v3
            intro hj_141
            refine tz_aS (pc := 141) (z := ((m * 3) + 2)) dX9_made_141 a_9 rfl (by omega) (by omega) ?_
            have FE := made_e (J := J) (m := m) (h := h) (A := A) (w := w) (v1 := v1) (v2 := v2) (v3 := v3)
            generalize (zup (zup (zup (zup (zup (zup J 7 m h) 8 m A) 11 m w) 9 (m * 3) v1) 9 ((m * 3) + 1) v2) 9 ((m * 3) + 2) v3) = J1 at FE ⊢
            obtain ⟨f0, s1, g7, g8, g11, g90, g91, g92⟩ := FE
            have C1 : CT J1 m := C.su (f0 1 rfl) (f0 3 rfl) (f0 4 rfl) (f0 16 rfl) s1
            refine tz_iload (pc := 142) dX9_made_142 rfl ?_
            have join175 : (okA A a b c) → tz_At l G M_X9_made (tb_rm 2 0 0) none (tb_ZM G 0 0 (zQ n 0 (zqi (fun z J' => madeP J m h a b c z J'))) (zX n 0 zN)) 0 0 n J1 175 [some (.ref 6), some (zi h), some (zi a), some (zi b), some (zi c), some (zi m), some (zi z_11), some (zi A), none, none, none] ([]) := by
              intro hj_175
              have hargs := made_a (X := fun i => J1 9 (m * 3 + i)) hA hj_96 hj_118 hj_141 hj_175 hlt g90 g91 g92
              refine tz_aload_n (pc := 175) dX9_made_175 rfl rfl ?_
              refine tz_iload (pc := 176) dX9_made_176 rfl ?_
              refine tz_cV (pc := 178) (c_bucket hl n _ _ (by omega) (by omega) (by rw [g8]; exact hA) (by rw [g8]; exact fun i p q => by have := hargs i p q; omega)) vl_X9_71 dX9_made_178 o_6 rfl rfl (Nat.le_of_ble_eq_true rfl) ⟨(Nat.le_of_ble_eq_true rfl), (Nat.le_of_ble_eq_true rfl)⟩ rfl rfl (Nat.le_of_ble_eq_true rfl) (Nat.le_of_ble_eq_true rfl) (fun r9 J_178 hq9 => ?_)
              obtain ⟨z_178, rfl, hz_178, rfl, rfl⟩ := hq9
              refine tz_istore (pc := 181) (L2 := [_, _, _, _, _, _, _, _, _, _, _]) dX9_made_181 (by decide) rfl ?_
              have hB := zbk_rg J1 m
              refine tz_aload_n (pc := 183) dX9_made_183 rfl rfl ?_
              refine tz_fR (pc := 184) dX9_made_184 fl_X9_33 r_6_8 ?_
              refine tz_iload (pc := 187) dX9_made_187 rfl ?_
              refine tz_iload (pc := 189) dX9_made_189 rfl ?_
              refine tz_aS (pc := 191) (z := m) dX9_made_191 a_14 rfl (by omega) (by omega) ?_
              refine tz_aload_n (pc := 192) dX9_made_192 rfl rfl ?_
              refine tz_fR (pc := 193) dX9_made_193 fl_X9_39 r_6_10 ?_
              refine tz_iload (pc := 196) dX9_made_196 rfl ?_
              refine tz_aL (pc := 198) (z := (zbk J1 m)) (v := (J1 16 (zbk J1 m))) dX9_made_198 a_16 rfl (by omega) rfl (fun r_198 => ?_)
              refine tz_istore (pc := 199) (L2 := [_, _, _, _, _, _, _, _, _, _, _]) dX9_made_199 (by decide) rfl ?_
              have hcb := C1.2.2 (zbk J1 m) (by omega) (by omega)
              unfold cB1 at hcb
              refine tz_iconst (pc := 201) dX9_made_201 ?_
              refine tz_istore (pc := 202) (L2 := [_, _, _, _, _, _, _, _, _, _, _]) dX9_made_202 (by decide) rfl ?_
              have loop204 : ∀ (f9 : Nat) (k : Int) (s : Int) (J2 : zJ), ((400 - k).toNat) < f9 → (0 ≤ k ∧ k ≤ 400) → ((-1 ≤ s ∧ s < m) ∧ s ≤ m - 1 - k) → (s = -1 ∨ zbk J1 s = zbk J1 m) → (zOf (zbut [14]) J2 J1) → (∀ t, 0 ≤ t → t < m → J2 14 t = J1 14 t) → (∀ t, 0 ≤ t → t < m → s < t → zbk J1 t = zbk J1 m → ¬ smT J1 t m) → tz_At l G M_X9_made (tb_rm 2 0 0) none (tb_ZM G 0 0 (zQ n 0 (zqi (fun z J' => madeP J m h a b c z J'))) (zX n 0 zN)) 0 0 n J2 204 [some (.ref 6), some (zi h), some (zi a), some (zi b), some (zi c), some (zi m), some (zi z_11), some (zi A), some (zi (zbk J1 m)), some (zi s), some (zi k)] [] := by
                intro f9
                induction f9 with
                | zero => intro k s J2 hm9; exact absurd hm9 (Nat.not_lt_zero _)
                | succ f9 ih204 =>
                  intro k s J2 hm204 hk hs hsb fr f14 NSs
                  have e7 : J2 7 = J1 7 := fr 7 rfl
                  have e8 : J2 8 = J1 8 := fr 8 rfl
                  have e9 : J2 9 = J1 9 := fr 9 rfl
                  have e15 : J2 15 = J1 15 := fr 15 rfl
                  refine tz_iload (pc := 204) dX9_made_204 rfl ?_
                  refine tz_sipush (pc := 206) dX9_made_206 (by decide) ?_
                  refine tz_icmp_ge (pc := 209) (tgt := 272) dX9_made_209 (by decide) (by omega) (by decide) (fun h_209 => ?_) (fun h_209 => ?_)
                  · refine tz_aload_n (pc := 272) dX9_made_272 rfl rfl ?_
                    refine tz_iload (pc := 273) dX9_made_273 rfl ?_
                    have e10 : J2 10 = J1 10 := fr 10 rfl
                    have e11 : J2 11 = J1 11 := fr 11 rfl
                    have e12 : J2 12 = J1 12 := fr 12 rfl
                    have hs9 : s = -1 := by omega
                    have NS : ∀ t, 0 ≤ t → t < m → ¬ smT J1 t m := fun t p q x => NSs t p q (by omega) (smT_bk C1 p q (by rw [g8, g7, f0 3 rfl, hj_34]) x) x
                    refine tz_cV (pc := 275) (c_measure hl n _ _ (by omega) (by omega) (by rw [e11, g11]; omega) (by rw [e8, e9, e10, e11, e12, g8]; exact fun i p q => by have x := hargs i p q; have y := C1.nums x.1 x.2; exact ⟨x, by omega, by omega, by omega⟩) (by rw [e8, g8]; exact hA)) vl_X9_82 dX9_made_275 o_6 rfl rfl (Nat.le_of_ble_eq_true rfl) ⟨(Nat.le_of_ble_eq_true rfl), (Nat.le_of_ble_eq_true rfl)⟩ rfl rfl (Nat.le_of_ble_eq_true rfl) (Nat.le_of_ble_eq_true rfl) (fun r9 J_275 hq9 => ?_)
                    obtain ⟨rfl, p0, pk, q10, q11, q12, q13⟩ := hq9
                    refine tz_iload (pc := 278) dX9_made_278 rfl ?_
                    refine tz_sipush (pc := 280) dX9_made_280 (by decide) ?_
                    refine tz_icmp_ge (pc := 283) (tgt := 298) dX9_made_283 (by decide) (by omega) (by decide) (fun h_283 => ?_) (fun h_283 => ?_)
                    · refine tz_bipush (pc := 298) dX9_made_298 (by decide) ?_
                      exact tz_iret (pc := 300) (z := (-3)) dX9_made_300 rfl (Nat.le_of_ble_eq_true rfl) (Nat.le_of_ble_eq_true rfl) ⟨Nat.le_refl _, Nat.le_add_right _ _⟩ ⟨_, rfl, (by decide), made_full C hm s1 f0 C1 fr f14 p0 pk hA hj_34 g7 g8 hj_96 hj_118 hj_141 g90 g91 g92 NS q12 (by omega)⟩
                    · refine tz_aload_n (pc := 286) dX9_made_286 rfl rfl ?_
                      refine tz_fR (pc := 287) dX9_made_287 fl_X9_27 r_6_6 ?_
                      refine tz_iload (pc := 290) dX9_made_290 rfl ?_
                      refine tz_aL (pc := 292) (z := m) (v := (J_275 12 m)) dX9_made_292 a_12 rfl (by omega) rfl (fun r_292 => ?_)
                      refine tz_bipush (pc := 293) dX9_made_293 (by decide) ?_
                      refine tz_icmp_le (pc := 295) (tgt := 301) dX9_made_295 (by decide) (by omega) (by decide) (fun h_295 => ?_) (fun h_295 => ?_)
                      · refine tz_aload_n (pc := 301) dX9_made_301 rfl rfl ?_
                        refine tz_fR (pc := 302) dX9_made_302 fl_X9_36 r_6_9 ?_
                        refine tz_iload (pc := 305) dX9_made_305 rfl ?_
                        refine tz_aload_n (pc := 307) dX9_made_307 rfl rfl ?_
                        refine tz_fR (pc := 308) dX9_made_308 fl_X9_39 r_6_10 ?_
                        refine tz_iload (pc := 311) dX9_made_311 rfl ?_
                        refine tz_aL (pc := 313) (z := (zbk J1 m)) (v := (J1 16 (zbk J1 m))) dX9_made_313 a_16 rfl (by omega) (Eq.trans (congrFun (p0 16 rfl) (zbk J1 m)) (Eq.trans (congrFun (fr 16 rfl) (zbk J1 m)) rfl)) (fun r_313 => ?_)
                        refine tz_aS (pc := 314) (z := m) dX9_made_314 a_15 rfl (by omega) (by omega) ?_
                        refine tz_aload_n (pc := 315) dX9_made_315 rfl rfl ?_
                        refine tz_fR (pc := 316) dX9_made_316 fl_X9_39 r_6_10 ?_
                        refine tz_iload (pc := 319) dX9_made_319 rfl ?_
                        refine tz_iload (pc := 321) dX9_made_321 rfl ?_
                        refine tz_aS (pc := 323) (z := (zbk J1 m)) dX9_made_323 a_16 rfl (by omega) (by omega) ?_
                        refine tz_aload_n (pc := 324) dX9_made_324 rfl rfl ?_
                        refine tz_dup (pc := 325) dX9_made_325 rfl ?_
                        refine tz_fI (pc := 326) (kz := 12) (v := m) dX9_made_326 fl_X9_45 i_6_12 rfl (Eq.trans (congrFun (p0 6 rfl) 12) (Eq.trans (congrFun (fr 6 rfl) 12) ((congrFun (f0 6 rfl) 12).trans hm))) (fun r_326 => ?_)
                        refine tz_iconst (pc := 329) dX9_made_329 ?_
                        refine tz_iadd (pc := 330) (v := m + 1) dX9_made_330 rfl ?_
                        refine tz_pI (pc := 331) (kz := 12) dX9_made_331 fl_X9_45 i_6_12 rfl rfl (by omega) ?_
                        refine tz_iload (pc := 334) dX9_made_334 rfl ?_
                        exact tz_iret (pc := 336) (z := m) dX9_made_336 rfl (Nat.le_of_ble_eq_true rfl) (Nat.le_of_ble_eq_true rfl) ⟨Nat.le_refl _, Nat.le_add_right _ _⟩ ⟨_, rfl, (by omega), made_fin C hm hh s1 f0 C1 fr f14 p0 pk hA hj_34 g7 g8 g11 hj_77 hj_96 hj_118 hj_141 g90 g91 g92 (hj_34 ▸ hj_175) hargs NS q10 q11 q12 q13 (by omega) (by omega)⟩
                      · refine tz_bipush (pc := 298) dX9_made_298 (by decide) ?_
                        exact tz_iret (pc := 300) (z := (-3)) dX9_made_300 rfl (Nat.le_of_ble_eq_true rfl) (Nat.le_of_ble_eq_true rfl) ⟨Nat.le_refl _, Nat.le_add_right _ _⟩ ⟨_, rfl, (by decide), made_full C hm s1 f0 C1 fr f14 p0 pk hA hj_34 g7 g8 hj_96 hj_118 hj_141 g90 g91 g92 NS q12 (by omega)⟩
                  · refine tz_iload (pc := 212) dX9_made_212 rfl ?_
                    refine tz_iconst (pc := 214) dX9_made_214 ?_
                    refine tz_icmp_eq (pc := 215) (tgt := 272) dX9_made_215 (by decide) (by omega) (by decide) (fun h_215 => ?_) (fun h_215 => ?_)
                    · refine tz_aload_n (pc := 272) dX9_made_272 rfl rfl ?_
                      refine tz_iload (pc := 273) dX9_made_273 rfl ?_
                      have e10 : J2 10 = J1 10 := fr 10 rfl
                      have e11 : J2 11 = J1 11 := fr 11 rfl
                      have e12 : J2 12 = J1 12 := fr 12 rfl
                      have hs9 : s = -1 := by omega
                      have NS : ∀ t, 0 ≤ t → t < m → ¬ smT J1 t m := fun t p q x => NSs t p q (by omega) (smT_bk C1 p q (by rw [g8, g7, f0 3 rfl, hj_34]) x) x
                      refine tz_cV (pc := 275) (c_measure hl n _ _ (by omega) (by omega) (by rw [e11, g11]; omega) (by rw [e8, e9, e10, e11, e12, g8]; exact fun i p q => by have x := hargs i p q; have y := C1.nums x.1 x.2; exact ⟨x, by omega, by omega, by omega⟩) (by rw [e8, g8]; exact hA)) vl_X9_82 dX9_made_275 o_6 rfl rfl (Nat.le_of_ble_eq_true rfl) ⟨(Nat.le_of_ble_eq_true rfl), (Nat.le_of_ble_eq_true rfl)⟩ rfl rfl (Nat.le_of_ble_eq_true rfl) (Nat.le_of_ble_eq_true rfl) (fun r9 J_275 hq9 => ?_)
                      obtain ⟨rfl, p0, pk, q10, q11, q12, q13⟩ := hq9
                      refine tz_iload (pc := 278) dX9_made_278 rfl ?_
                      refine tz_sipush (pc := 280) dX9_made_280 (by decide) ?_
                      refine tz_icmp_ge (pc := 283) (tgt := 298) dX9_made_283 (by decide) (by omega) (by decide) (fun h_283 => ?_) (fun h_283 => ?_)
                      · refine tz_bipush (pc := 298) dX9_made_298 (by decide) ?_
                        exact tz_iret (pc := 300) (z := (-3)) dX9_made_300 rfl (Nat.le_of_ble_eq_true rfl) (Nat.le_of_ble_eq_true rfl) ⟨Nat.le_refl _, Nat.le_add_right _ _⟩ ⟨_, rfl, (by decide), made_full C hm s1 f0 C1 fr f14 p0 pk hA hj_34 g7 g8 hj_96 hj_118 hj_141 g90 g91 g92 NS q12 (by omega)⟩
                      · refine tz_aload_n (pc := 286) dX9_made_286 rfl rfl ?_
                        refine tz_fR (pc := 287) dX9_made_287 fl_X9_27 r_6_6 ?_
                        refine tz_iload (pc := 290) dX9_made_290 rfl ?_
                        refine tz_aL (pc := 292) (z := m) (v := (J_275 12 m)) dX9_made_292 a_12 rfl (by omega) rfl (fun r_292 => ?_)
                        refine tz_bipush (pc := 293) dX9_made_293 (by decide) ?_
                        refine tz_icmp_le (pc := 295) (tgt := 301) dX9_made_295 (by decide) (by omega) (by decide) (fun h_295 => ?_) (fun h_295 => ?_)
                        · refine tz_aload_n (pc := 301) dX9_made_301 rfl rfl ?_
                          refine tz_fR (pc := 302) dX9_made_302 fl_X9_36 r_6_9 ?_
                          refine tz_iload (pc := 305) dX9_made_305 rfl ?_
                          refine tz_aload_n (pc := 307) dX9_made_307 rfl rfl ?_
                          refine tz_fR (pc := 308) dX9_made_308 fl_X9_39 r_6_10 ?_
                          refine tz_iload (pc := 311) dX9_made_311 rfl ?_
                          refine tz_aL (pc := 313) (z := (zbk J1 m)) (v := (J1 16 (zbk J1 m))) dX9_made_313 a_16 rfl (by omega) (Eq.trans (congrFun (p0 16 rfl) (zbk J1 m)) (Eq.trans (congrFun (fr 16 rfl) (zbk J1 m)) rfl)) (fun r_313 => ?_)
                          refine tz_aS (pc := 314) (z := m) dX9_made_314 a_15 rfl (by omega) (by omega) ?_
                          refine tz_aload_n (pc := 315) dX9_made_315 rfl rfl ?_
                          refine tz_fR (pc := 316) dX9_made_316 fl_X9_39 r_6_10 ?_
                          refine tz_iload (pc := 319) dX9_made_319 rfl ?_
                          refine tz_iload (pc := 321) dX9_made_321 rfl ?_
                          refine tz_aS (pc := 323) (z := (zbk J1 m)) dX9_made_323 a_16 rfl (by omega) (by omega) ?_
                          refine tz_aload_n (pc := 324) dX9_made_324 rfl rfl ?_
                          refine tz_dup (pc := 325) dX9_made_325 rfl ?_
                          refine tz_fI (pc := 326) (kz := 12) (v := m) dX9_made_326 fl_X9_45 i_6_12 rfl (Eq.trans (congrFun (p0 6 rfl) 12) (Eq.trans (congrFun (fr 6 rfl) 12) ((congrFun (f0 6 rfl) 12).trans hm))) (fun r_326 => ?_)
                          refine tz_iconst (pc := 329) dX9_made_329 ?_
                          refine tz_iadd (pc := 330) (v := m + 1) dX9_made_330 rfl ?_
                          refine tz_pI (pc := 331) (kz := 12) dX9_made_331 fl_X9_45 i_6_12 rfl rfl (by omega) ?_
                          refine tz_iload (pc := 334) dX9_made_334 rfl ?_
                          exact tz_iret (pc := 336) (z := m) dX9_made_336 rfl (Nat.le_of_ble_eq_true rfl) (Nat.le_of_ble_eq_true rfl) ⟨Nat.le_refl _, Nat.le_add_right _ _⟩ ⟨_, rfl, (by omega), made_fin C hm hh s1 f0 C1 fr f14 p0 pk hA hj_34 g7 g8 g11 hj_77 hj_96 hj_118 hj_141 g90 g91 g92 (hj_34 ▸ hj_175) hargs NS q10 q11 q12 q13 (by omega) (by omega)⟩
                        · refine tz_bipush (pc := 298) dX9_made_298 (by decide) ?_
                          exact tz_iret (pc := 300) (z := (-3)) dX9_made_300 rfl (Nat.le_of_ble_eq_true rfl) (Nat.le_of_ble_eq_true rfl) ⟨Nat.le_refl _, Nat.le_add_right _ _⟩ ⟨_, rfl, (by decide), made_full C hm s1 f0 C1 fr f14 p0 pk hA hj_34 g7 g8 hj_96 hj_118 hj_141 g90 g91 g92 NS q12 (by omega)⟩
                    · refine tz_aload_n (pc := 218) dX9_made_218 rfl rfl ?_
                      refine tz_iload (pc := 219) dX9_made_219 rfl ?_
                      refine tz_iload (pc := 221) dX9_made_221 rfl ?_
                      refine tz_cV (pc := 223) (c_same hl n _ _ _ (by omega) (by omega) (by omega) (by omega) (by rw [e8, g8]; exact hA)) vl_X9_75 dX9_made_223 o_6 rfl rfl (Nat.le_of_ble_eq_true rfl) ⟨(Nat.le_of_ble_eq_true rfl), (Nat.le_of_ble_eq_true rfl)⟩ rfl rfl (Nat.le_of_ble_eq_true rfl) (Nat.le_of_ble_eq_true rfl) (fun r9 J_223 hq9 => ?_)
                      obtain ⟨z_223, rfl, hz_223, rfl, hq_223⟩ := hq9
                      rw [e7, e8, e9] at hq_223
                      refine tz_if_eq (pc := 226) (tgt := 232) dX9_made_226 (by decide) (by omega) (fun h_226 => ?_) (fun h_226 => ?_)
                      · refine tz_aload_n (pc := 232) dX9_made_232 rfl rfl ?_
                        refine tz_iload (pc := 233) dX9_made_233 rfl ?_
                        refine tz_iload (pc := 235) dX9_made_235 rfl ?_
                        refine tz_cV (pc := 237) (c_shape hl n _ _ _ (by omega) (by omega) (by omega) (by omega) (by rw [e8, g8]; exact hA) (by rw [e7, e8, g7, g8, hj_34]; exact fun x => by unfold arh; rw [if_pos x]) (by rw [e8, e9, g8]; exact fun i p q => by have := hargs i p q; omega) (by rw [e7, e8, e9, g8]; exact fun x i p q => by have x2 : i < J1 8 s := (by rw [(C1.2.1 s (by omega) (by omega)).1.1, x, g7, f0 3 rfl, ← hj_34]; exact q); have := C1.arg (by omega) (by omega) p x2; omega)) vl_X9_79 dX9_made_237 o_6 rfl rfl (Nat.le_of_ble_eq_true rfl) ⟨(Nat.le_of_ble_eq_true rfl), (Nat.le_of_ble_eq_true rfl)⟩ rfl rfl (Nat.le_of_ble_eq_true rfl) (Nat.le_of_ble_eq_true rfl) (fun r9 J_237 hq9 => ?_)
                        obtain ⟨z_237, rfl, hz_237, rfl, hsh_237, -⟩ := hq9
                        refine tz_if_eq (pc := 240) (tgt := 257) dX9_made_240 (by decide) (by omega) (fun h_240 => ?_) (fun h_240 => ?_)
                        · obtain ⟨hc1, hc2⟩ := (C1.2.1 s (by omega) (by omega)).2
                          refine tz_aload_n (pc := 257) dX9_made_257 rfl rfl ?_
                          refine tz_fR (pc := 258) dX9_made_258 fl_X9_36 r_6_9 ?_
                          refine tz_iload (pc := 261) dX9_made_261 rfl ?_
                          refine tz_aL (pc := 263) (z := s) (v := (J1 15 s)) dX9_made_263 a_15 rfl (by omega) (Eq.trans (congrFun (fr 15 rfl) s) rfl) (fun r_263 => ?_)
                          refine tz_istore (pc := 264) (L2 := [_, _, _, _, _, _, _, _, _, _, _]) dX9_made_264 (by decide) rfl ?_
                          refine tz_iinc (pc := 266) (z := k + 1) (L2 := [_, _, _, _, _, _, _, _, _, _, _]) dX9_made_266 rfl (by omega) rfl ?_
                          refine tz_goto (pc := 269) (tgt := 204) dX9_made_269 (by decide) ?_
                          have hn9 : ∀ t, 0 ≤ t → t < m → J1 15 s < t → zbk J1 t = zbk J1 m → ¬ smT J1 t m := fun t p q r x => by
                            by_cases y1 : s < t
                            · exact NSs t p q y1 x
                            · by_cases y2 : t = s
                              · rw [y2]
                                exact fun y3 => by have := hq_223.2.mpr y3; omega
                              · exact absurd (hc2 t p (by omega) (by rw [x]; exact (hsb.resolve_left (by omega)).symm)) (by omega)
                          exact ih204 (k + 1) _ _ (by omega) (by omega) (by rcases hc1 with g | g <;> omega) (by rcases hc1 with g | g; exact Or.inl g; exact Or.inr (g.2.trans (hsb.resolve_left (by omega)))) fr f14 hn9
                        · refine tz_aload_n (pc := 243) dX9_made_243 rfl rfl ?_
                          refine tz_fR (pc := 244) dX9_made_244 fl_X9_33 r_6_8 ?_
                          refine tz_iload (pc := 247) dX9_made_247 rfl ?_
                          refine tz_aload_n (pc := 249) dX9_made_249 rfl rfl ?_
                          refine tz_fR (pc := 250) dX9_made_250 fl_X9_33 r_6_8 ?_
                          refine tz_iload (pc := 253) dX9_made_253 rfl ?_
                          refine tz_aL (pc := 255) (z := s) (v := (J2 14 s)) dX9_made_255 a_14 rfl (by omega) rfl (fun r_255 => ?_)
                          refine tz_aS (pc := 256) (z := m) dX9_made_256 a_14 rfl (by omega) (by omega) ?_
                          obtain ⟨hc1, hc2⟩ := (C1.2.1 s (by omega) (by omega)).2
                          refine tz_aload_n (pc := 257) dX9_made_257 rfl rfl ?_
                          refine tz_fR (pc := 258) dX9_made_258 fl_X9_36 r_6_9 ?_
                          refine tz_iload (pc := 261) dX9_made_261 rfl ?_
                          refine tz_aL (pc := 263) (z := s) (v := (J1 15 s)) dX9_made_263 a_15 rfl (by omega) (Eq.trans (congrFun (fr 15 rfl) s) rfl) (fun r_263 => ?_)
                          refine tz_istore (pc := 264) (L2 := [_, _, _, _, _, _, _, _, _, _, _]) dX9_made_264 (by decide) rfl ?_
                          refine tz_iinc (pc := 266) (z := k + 1) (L2 := [_, _, _, _, _, _, _, _, _, _, _]) dX9_made_266 rfl (by omega) rfl ?_
                          refine tz_goto (pc := 269) (tgt := 204) dX9_made_269 (by decide) ?_
                          have hn9 : ∀ t, 0 ≤ t → t < m → J1 15 s < t → zbk J1 t = zbk J1 m → ¬ smT J1 t m := fun t p q r x => by
                            by_cases y1 : s < t
                            · exact NSs t p q y1 x
                            · by_cases y2 : t = s
                              · rw [y2]
                                exact fun y3 => by have := hq_223.2.mpr y3; omega
                              · exact absurd (hc2 t p (by omega) (by rw [x]; exact (hsb.resolve_left (by omega)).symm)) (by omega)
                          exact ih204 (k + 1) _ _ (by omega) (by omega) (by rcases hc1 with g | g <;> omega) (by rcases hc1 with g | g; exact Or.inl g; exact Or.inr (g.2.trans (hsb.resolve_left (by omega)))) (zOf.up rfl fr) (fun t p q => (zup_ne (by omega)).trans (f14 t p q)) hn9
                      · refine tz_iload (pc := 229) dX9_made_229 rfl ?_
                        exact tz_iret (pc := 231) (z := s) dX9_made_231 rfl (Nat.le_of_ble_eq_true rfl) (Nat.le_of_ble_eq_true rfl) ⟨Nat.le_refl _, Nat.le_add_right _ _⟩ ⟨_, rfl, (by omega), ⟨made_w f0 fr, (made_s fr f14).tr s1, Or.inr (Or.inl ⟨⟨by omega, (smT_isT C s1 hA hj_34 g7 g8 hj_96 hj_118 hj_141 g90 g91 g92 (by omega) (by omega)).mp (hq_223.2.mp (by omega)), hj_34 ▸ hj_175⟩, (congrFun (fr 6 rfl) 12).trans ((congrFun (f0 6 rfl) 12).trans hm), C1.su (fr 1 rfl) (fr 3 rfl) (fr 4 rfl) (fr 16 rfl) (made_s fr f14)⟩)⟩⟩
              exact loop204 _ 0 _ _ (Nat.lt_succ_self _) (by omega) (by rcases hcb.1 with g | g <;> omega) (by rcases hcb.1 with g | g; exact Or.inl g; exact Or.inr g.2) (zOf.up rfl zOf.rf) (fun t p q => zup_ne (by omega)) (fun t p q r x y => absurd (hcb.2 t p q x) (by omega))
            refine tz_if_le (pc := 144) (tgt := 151) dX9_made_144 (by decide) (by omega) (fun h_144 => ?_) (fun h_144 => ?_)
            · refine tz_iload (pc := 151) dX9_made_151 rfl ?_
              refine tz_iconst (pc := 153) dX9_made_153 ?_
              refine tz_icmp_le (pc := 154) (tgt := 161) dX9_made_154 (by decide) (by omega) (by decide) (fun h_154 => ?_) (fun h_154 => ?_)
              · refine tz_iload (pc := 161) dX9_made_161 rfl ?_
                refine tz_iconst (pc := 163) dX9_made_163 ?_
                refine tz_icmp_le (pc := 164) (tgt := 175) dX9_made_164 (by decide) (by omega) (by decide) (fun h_164 => ?_) (fun h_164 => ?_)
                · exact join175 (by unfold okA; omega)
                · refine tz_iload (pc := 167) dX9_made_167 rfl ?_
                  refine tz_if_ge (pc := 169) (tgt := 175) dX9_made_169 (by decide) (by omega) (fun h_169 => ?_) (fun h_169 => ?_)
                  · exact join175 (by unfold okA; omega)
                  · refine tz_bipush (pc := 172) dX9_made_172 (by decide) ?_
                    exact tz_iret (pc := 174) (z := (-3)) dX9_made_174 rfl (Nat.le_of_ble_eq_true rfl) (Nat.le_of_ble_eq_true rfl) ⟨Nat.le_refl _, Nat.le_add_right _ _⟩ ⟨_, rfl, (by decide), ⟨made_w f0 zOf.rf, s1, Or.inl ⟨⟨rfl, Or.inl (fun hq => by unfold okA at hq; rw [← hj_34] at hq; omega)⟩, (congrFun (f0 6 rfl) 12).trans hm, C1⟩⟩⟩
              · refine tz_iload_n (pc := 157) dX9_made_157 rfl rfl ?_
                refine tz_if_lt (pc := 158) (tgt := 172) dX9_made_158 (by decide) (by omega) (fun h_158 => ?_) (fun h_158 => ?_)
                · refine tz_bipush (pc := 172) dX9_made_172 (by decide) ?_
                  exact tz_iret (pc := 174) (z := (-3)) dX9_made_174 rfl (Nat.le_of_ble_eq_true rfl) (Nat.le_of_ble_eq_true rfl) ⟨Nat.le_refl _, Nat.le_add_right _ _⟩ ⟨_, rfl, (by decide), ⟨made_w f0 zOf.rf, s1, Or.inl ⟨⟨rfl, Or.inl (fun hq => by unfold okA at hq; rw [← hj_34] at hq; omega)⟩, (congrFun (f0 6 rfl) 12).trans hm, C1⟩⟩⟩
                · refine tz_iload (pc := 161) dX9_made_161 rfl ?_
                  refine tz_iconst (pc := 163) dX9_made_163 ?_
                  refine tz_icmp_le (pc := 164) (tgt := 175) dX9_made_164 (by decide) (by omega) (by decide) (fun h_164 => ?_) (fun h_164 => ?_)
                  · exact join175 (by unfold okA; omega)
                  · refine tz_iload (pc := 167) dX9_made_167 rfl ?_
                    refine tz_if_ge (pc := 169) (tgt := 175) dX9_made_169 (by decide) (by omega) (fun h_169 => ?_) (fun h_169 => ?_)
                    · exact join175 (by unfold okA; omega)
                    · refine tz_bipush (pc := 172) dX9_made_172 (by decide) ?_
                      exact tz_iret (pc := 174) (z := (-3)) dX9_made_174 rfl (Nat.le_of_ble_eq_true rfl) (Nat.le_of_ble_eq_true rfl) ⟨Nat.le_refl _, Nat.le_add_right _ _⟩ ⟨_, rfl, (by decide), ⟨made_w f0 zOf.rf, s1, Or.inl ⟨⟨rfl, Or.inl (fun hq => by unfold okA at hq; rw [← hj_34] at hq; omega)⟩, (congrFun (f0 6 rfl) 12).trans hm, C1⟩⟩⟩
            · refine tz_iload_n (pc := 147) dX9_made_147 rfl rfl ?_
              refine tz_if_lt (pc := 148) (tgt := 172) dX9_made_148 (by decide) (by omega) (fun h_148 => ?_) (fun h_148 => ?_)
              · refine tz_bipush (pc := 172) dX9_made_172 (by decide) ?_
                exact tz_iret (pc := 174) (z := (-3)) dX9_made_174 rfl (Nat.le_of_ble_eq_true rfl) (Nat.le_of_ble_eq_true rfl) ⟨Nat.le_refl _, Nat.le_add_right _ _⟩ ⟨_, rfl, (by decide), ⟨made_w f0 zOf.rf, s1, Or.inl ⟨⟨rfl, Or.inl (fun hq => by unfold okA at hq; rw [← hj_34] at hq; omega)⟩, (congrFun (f0 6 rfl) 12).trans hm, C1⟩⟩⟩
              · refine tz_iload (pc := 151) dX9_made_151 rfl ?_
                refine tz_iconst (pc := 153) dX9_made_153 ?_
                refine tz_icmp_le (pc := 154) (tgt := 161) dX9_made_154 (by decide) (by omega) (by decide) (fun h_154 => ?_) (fun h_154 => ?_)
                · refine tz_iload (pc := 161) dX9_made_161 rfl ?_
                  refine tz_iconst (pc := 163) dX9_made_163 ?_
                  refine tz_icmp_le (pc := 164) (tgt := 175) dX9_made_164 (by decide) (by omega) (by decide) (fun h_164 => ?_) (fun h_164 => ?_)
                  · exact join175 (by unfold okA; omega)
                  · refine tz_iload (pc := 167) dX9_made_167 rfl ?_
                    refine tz_if_ge (pc := 169) (tgt := 175) dX9_made_169 (by decide) (by omega) (fun h_169 => ?_) (fun h_169 => ?_)
                    · exact join175 (by unfold okA; omega)
                    · refine tz_bipush (pc := 172) dX9_made_172 (by decide) ?_
                      exact tz_iret (pc := 174) (z := (-3)) dX9_made_174 rfl (Nat.le_of_ble_eq_true rfl) (Nat.le_of_ble_eq_true rfl) ⟨Nat.le_refl _, Nat.le_add_right _ _⟩ ⟨_, rfl, (by decide), ⟨made_w f0 zOf.rf, s1, Or.inl ⟨⟨rfl, Or.inl (fun hq => by unfold okA at hq; rw [← hj_34] at hq; omega)⟩, (congrFun (f0 6 rfl) 12).trans hm, C1⟩⟩⟩
                · refine tz_iload_n (pc := 157) dX9_made_157 rfl rfl ?_
                  refine tz_if_lt (pc := 158) (tgt := 172) dX9_made_158 (by decide) (by omega) (fun h_158 => ?_) (fun h_158 => ?_)
                  · refine tz_bipush (pc := 172) dX9_made_172 (by decide) ?_
                    exact tz_iret (pc := 174) (z := (-3)) dX9_made_174 rfl (Nat.le_of_ble_eq_true rfl) (Nat.le_of_ble_eq_true rfl) ⟨Nat.le_refl _, Nat.le_add_right _ _⟩ ⟨_, rfl, (by decide), ⟨made_w f0 zOf.rf, s1, Or.inl ⟨⟨rfl, Or.inl (fun hq => by unfold okA at hq; rw [← hj_34] at hq; omega)⟩, (congrFun (f0 6 rfl) 12).trans hm, C1⟩⟩⟩
                  · refine tz_iload (pc := 161) dX9_made_161 rfl ?_
                    refine tz_iconst (pc := 163) dX9_made_163 ?_
                    refine tz_icmp_le (pc := 164) (tgt := 175) dX9_made_164 (by decide) (by omega) (by decide) (fun h_164 => ?_) (fun h_164 => ?_)
                    · exact join175 (by unfold okA; omega)
                    · refine tz_iload (pc := 167) dX9_made_167 rfl ?_
                      refine tz_if_ge (pc := 169) (tgt := 175) dX9_made_169 (by decide) (by omega) (fun h_169 => ?_) (fun h_169 => ?_)
                      · exact join175 (by unfold okA; omega)
                      · refine tz_bipush (pc := 172) dX9_made_172 (by decide) ?_
                        exact tz_iret (pc := 174) (z := (-3)) dX9_made_174 rfl (Nat.le_of_ble_eq_true rfl) (Nat.le_of_ble_eq_true rfl) ⟨Nat.le_refl _, Nat.le_add_right _ _⟩ ⟨_, rfl, (by decide), ⟨made_w f0 zOf.rf, s1, Or.inl ⟨⟨rfl, Or.inl (fun hq => by unfold okA at hq; rw [← hj_34] at hq; omega)⟩, (congrFun (f0 6 rfl) 12).trans hm, C1⟩⟩⟩
          refine tz_icmp_le (pc := 132) (tgt := 140) dX9_made_132 (by decide) (by omega) (by decide) (fun h_132 => ?_) (fun h_132 => ?_)
          · refine tz_iconst (pc := 140) dX9_made_140 ?_
            exact join141 (-1) (by decide) (by split <;> omega)
          · refine tz_iload (pc := 135) dX9_made_135 rfl ?_
            refine tz_goto (pc := 137) (tgt := 141) dX9_made_137 (by decide) ?_
            exact join141 c (by omega) (by split <;> omega)
        refine tz_icmp_le (pc := 110) (tgt := 117) dX9_made_110 (by decide) (by omega) (by decide) (fun h_110 => ?_) (fun h_110 => ?_)
        · refine tz_iconst (pc := 117) dX9_made_117 ?_
          exact join118 (-1) (by decide) (by split <;> omega)
        · refine tz_iload_n (pc := 113) dX9_made_113 rfl rfl ?_
          refine tz_goto (pc := 114) (tgt := 118) dX9_made_114 (by decide) ?_
          exact join118 b (by omega) (by split <;> omega)
      refine tz_if_le (pc := 88) (tgt := 95) dX9_made_88 (by decide) (by omega) (fun h_88 => ?_) (fun h_88 => ?_)
      · refine tz_iconst (pc := 95) dX9_made_95 ?_
        exact join96 (-1) (by decide) (by split <;> omega)
      · refine tz_iload_n (pc := 91) dX9_made_91 rfl rfl ?_
        refine tz_goto (pc := 92) (tgt := 96) dX9_made_92 (by decide) ?_
        exact join96 a (by omega) (by split <;> omega)
    refine tz_if_eq (pc := 61) (tgt := 76) dX9_made_61 (by decide) (by omega) (fun h_61 => ?_) (fun h_61 => ?_)
    · refine tz_iconst (pc := 76) dX9_made_76 ?_
      exact join77 1 (by decide) (by split <;> omega)
    · refine tz_aload_n (pc := 64) dX9_made_64 rfl rfl ?_
      refine tz_fR (pc := 65) dX9_made_65 fl_X9_49 r_6_0 ?_
      refine tz_fR (pc := 68) dX9_made_68 fl_X9_70 r_1_2 ?_
      refine tz_iload_n (pc := 71) dX9_made_71 rfl rfl ?_
      refine tz_aL (pc := 72) (z := h) (v := (J 4 h)) dX9_made_72 a_4 rfl (by omega) rfl (fun r_72 => ?_)
      refine tz_goto (pc := 73) (tgt := 77) dX9_made_73 (by decide) ?_
      exact join77 (J 4 h) (by omega) (by split <;> omega)
  refine tz_if_eq (pc := 18) (tgt := 33) dX9_made_18 (by decide) (by omega) (fun h_18 => ?_) (fun h_18 => ?_)
  · refine tz_iconst (pc := 33) dX9_made_33 ?_
    exact join34 0 (by decide) (by unfold arh; split <;> omega)
  · refine tz_aload_n (pc := 21) dX9_made_21 rfl rfl ?_
    refine tz_fR (pc := 22) dX9_made_22 fl_X9_49 r_6_0 ?_
    refine tz_fR (pc := 25) dX9_made_25 fl_X9_69 r_1_1 ?_
    refine tz_iload_n (pc := 28) dX9_made_28 rfl rfl ?_
    refine tz_aL (pc := 29) (z := h) (v := (J 3 h)) dX9_made_29 a_3 rfl (by omega) rfl (fun r_29 => ?_)
    refine tz_goto (pc := 30) (tgt := 34) dX9_made_30 (by decide) ?_
    exact join34 (J 3 h) (by omega) (by unfold arh; split <;> omega)
