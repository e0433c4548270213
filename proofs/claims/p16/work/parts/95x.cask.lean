/-! ===== the class: a question leaves what is told alone ===== -/
theorem CAL.wk7 {X : List Nat} {J' J S : zJ} {pn m : Int} {RR : Int → Int → Int} (c : CAL J S pn RR) (hI : CI J m) (f : zOf (zbut X) J' J) (hX : (X.all fun c => decide (c = 17 ∨ 140 ≤ c)) = true) : CAL J' S pn RR := by
  have hn := hI.2.1
  have nn := c.2.2.1
  have hf : ∀ c, c < 140 → ¬ c = 17 → J' c = J c := fun c hc h7 => f c (by
    simp only [zbut, Bool.not_eq_true', List.contains_eq_mem, decide_eq_false_iff_not]
    intro q
    have := of_decide_eq_true (List.all_eq_true.mp hX c q)
    omega)
  exact ⟨c.1.f (fun q hq => hf q (by omega) (by omega)), by rw [hf 19 (by decide) (by decide)]; exact c.2.1, c.2.2.of (by omega) (hf 5 (by decide) (by decide)) (fun i a b => hf _ (by unfold zU; omega) (by unfold zU; omega))⟩
set_option maxHeartbeats 4000000 in
set_option maxRecDepth 100000 in
theorem l_count {l : Launch} {G : tb_G} (hl : l.stackTraces = false) (n : Nat) (J : zJ) (u : Int) (hr_u : -2147483648 ≤ u ∧ u < 2147483648) (m : Int) (S : zJ) (pn : Int) (RR : Int → Int → Int) (hI : CI J m) (h9 : J 145 10 < 1000000000) (cc : CAL J S pn RR) (h21 : S 164 21 = 0) : tz_Ok l G M_X11_count 7 1 6 [.ref 0, zi u] n J (zqi (fun z J' => CQ J' J ∧ CAL J' S pn RR)) (fun E J' => E = "java/util/NoSuchElementException" ∧ J = J') := by
  refine tz_Ok.of hl (by decide +kernel) rfl (tb_c1 rfl) (Nat.le_of_ble_eq_true rfl) ?_
  show tz_At l G M_X11_count (tb_rm 7 1 6) none (tb_ZM G 1 6 (zQ n 1 (zqi (fun z J' => CQ J' J ∧ CAL J' S pn RR))) (zX n 1 (fun E J' => E = "java/util/NoSuchElementException" ∧ J = J'))) 0 0 n J 0 [some (.ref 0), some (zi u), none] []
  have hC := hI.1.1.1
  have hm := hI.1.1.2.1
  have hL := hI.1.1.2.2
  have hb := hC.told
  refine tz_aload_n (pc := 0) dX11_count_0 rfl rfl ?_
  refine tz_fR (pc := 1) dX11_count_1 fl_X11_29 r_0_1 ?_
  refine tz_fR (pc := 4) dX11_count_4 fl_X11_156 r_5_1 ?_
  refine tz_fR (pc := 7) dX11_count_7 fl_X11_167 r_18_0 ?_
  refine tz_astore_n (pc := 10) (L2 := [_, _, _]) dX11_count_10 rfl (by decide) rfl ?_
  refine tz_iload_n (pc := 11) dX11_count_11 rfl rfl ?_
  by_cases hs_12 : u < 0 ∨ 16 < u
  · refine tz_tabOut (pc := 12) (tgt := 193) dX11_count_12 (by omega) hs_12 (by decide) ?_
    exact tz_throwN (pc := 193) (text := "no such count") th_X11_188_192 (by decide +kernel) rfl dX11_count_193 dX11_count_196 dX11_count_197 dX11_count_199 dX11_count_202 (Nat.le_of_ble_eq_true rfl) (Nat.le_of_ble_eq_true rfl) (Nat.le_of_ble_eq_true rfl) (Nat.le_of_ble_eq_true rfl) (Nat.le_of_ble_eq_true rfl) (Nat.le_of_ble_eq_true rfl) ⟨Nat.le_refl _, Nat.le_add_right _ _⟩ ⟨rfl, rfl⟩
  · have hs9 : u = 0 ∨ u = 1 ∨ u = 2 ∨ u = 3 ∨ u = 4 ∨ u = 5 ∨ u = 6 ∨ u = 7 ∨ u = 8 ∨ u = 9 ∨ u = 10 ∨ u = 11 ∨ u = 12 ∨ u = 13 ∨ u = 14 ∨ u = 15 ∨ u = 16 := by omega
    rcases hs9 with hc_12 | hc_12 | hc_12 | hc_12 | hc_12 | hc_12 | hc_12 | hc_12 | hc_12 | hc_12 | hc_12 | hc_12 | hc_12 | hc_12 | hc_12 | hc_12 | hc_12
    · refine tz_tabIn (pc := 12) (tgt := 96) 0 dX11_count_12 hc_12 (by decide) rfl (by decide) ?_
      refine tz_aload_n (pc := 96) dX11_count_96 rfl rfl ?_
      refine tz_fR (pc := 97) dX11_count_97 fl_X11_10 r_0_0 ?_
      refine tz_fI (pc := 100) (kz := 3) (v := (J 1 3)) dX11_count_100 fl_X11_170 i_1_3 rfl rfl (fun r_100 => ?_)
      exact tz_iret (pc := 103) (z := (J 1 3)) dX11_count_103 rfl (Nat.le_of_ble_eq_true rfl) (Nat.le_of_ble_eq_true rfl) ⟨Nat.le_refl _, Nat.le_add_right _ _⟩ ⟨_, rfl, (by omega), (by first | exact (by have hw := hI.uni u3 rfl u1; exact ⟨⟨⟨m, hw.1⟩, by omega, hw.2.1, hw.2.2⟩, cc.wk7 hI u3 rfl⟩) | exact ⟨CQ.rf hI, cc⟩)⟩
    · refine tz_tabIn (pc := 12) (tgt := 104) 1 dX11_count_12 hc_12 (by decide) rfl (by decide) ?_
      refine tz_aload_n (pc := 104) dX11_count_104 rfl rfl ?_
      refine tz_fR (pc := 105) dX11_count_105 fl_X11_29 r_0_1 ?_
      refine tz_fR (pc := 108) dX11_count_108 fl_X11_49 r_5_0 ?_
      refine tz_fI (pc := 111) (kz := 12) (v := (J 6 12)) dX11_count_111 fl_X11_173 i_6_12 rfl rfl (fun r_111 => ?_)
      exact tz_iret (pc := 114) (z := (J 6 12)) dX11_count_114 rfl (Nat.le_of_ble_eq_true rfl) (Nat.le_of_ble_eq_true rfl) ⟨Nat.le_refl _, Nat.le_add_right _ _⟩ ⟨_, rfl, (by omega), (by first | exact (by have hw := hI.uni u3 rfl u1; exact ⟨⟨⟨m, hw.1⟩, by omega, hw.2.1, hw.2.2⟩, cc.wk7 hI u3 rfl⟩) | exact ⟨CQ.rf hI, cc⟩)⟩
    · refine tz_tabIn (pc := 12) (tgt := 115) 2 dX11_count_12 hc_12 (by decide) rfl (by decide) ?_
      refine tz_aload_n (pc := 115) dX11_count_115 rfl rfl ?_
      refine tz_iconst (pc := 116) dX11_count_116 ?_
      refine tz_aL (pc := 117) (z := 4) (v := (J 19 4)) dX11_count_117 a_19 rfl (by decide) rfl (fun r_117 => ?_)
      exact tz_iret (pc := 118) (z := (J 19 4)) dX11_count_118 rfl (Nat.le_of_ble_eq_true rfl) (Nat.le_of_ble_eq_true rfl) ⟨Nat.le_refl _, Nat.le_add_right _ _⟩ ⟨_, rfl, (by omega), (by first | exact (by have hw := hI.uni u3 rfl u1; exact ⟨⟨⟨m, hw.1⟩, by omega, hw.2.1, hw.2.2⟩, cc.wk7 hI u3 rfl⟩) | exact ⟨CQ.rf hI, cc⟩)⟩
    · refine tz_tabIn (pc := 12) (tgt := 119) 3 dX11_count_12 hc_12 (by decide) rfl (by decide) ?_
      refine tz_aload_n (pc := 119) dX11_count_119 rfl rfl ?_
      refine tz_iconst (pc := 120) dX11_count_120 ?_
      refine tz_aL (pc := 121) (z := 5) (v := (J 19 5)) dX11_count_121 a_19 rfl (by decide) rfl (fun r_121 => ?_)
      exact tz_iret (pc := 122) (z := (J 19 5)) dX11_count_122 rfl (Nat.le_of_ble_eq_true rfl) (Nat.le_of_ble_eq_true rfl) ⟨Nat.le_refl _, Nat.le_add_right _ _⟩ ⟨_, rfl, (by omega), (by first | exact (by have hw := hI.uni u3 rfl u1; exact ⟨⟨⟨m, hw.1⟩, by omega, hw.2.1, hw.2.2⟩, cc.wk7 hI u3 rfl⟩) | exact ⟨CQ.rf hI, cc⟩)⟩
    · refine tz_tabIn (pc := 12) (tgt := 123) 4 dX11_count_12 hc_12 (by decide) rfl (by decide) ?_
      refine tz_aload_n (pc := 123) dX11_count_123 rfl rfl ?_
      refine tz_iconst (pc := 124) dX11_count_124 ?_
      refine tz_aL (pc := 125) (z := 1) (v := (J 19 1)) dX11_count_125 a_19 rfl (by decide) rfl (fun r_125 => ?_)
      exact tz_iret (pc := 126) (z := (J 19 1)) dX11_count_126 rfl (Nat.le_of_ble_eq_true rfl) (Nat.le_of_ble_eq_true rfl) ⟨Nat.le_refl _, Nat.le_add_right _ _⟩ ⟨_, rfl, (by omega), (by first | exact (by have hw := hI.uni u3 rfl u1; exact ⟨⟨⟨m, hw.1⟩, by omega, hw.2.1, hw.2.2⟩, cc.wk7 hI u3 rfl⟩) | exact ⟨CQ.rf hI, cc⟩)⟩
    · refine tz_tabIn (pc := 12) (tgt := 127) 5 dX11_count_12 hc_12 (by decide) rfl (by decide) ?_
      refine tz_aload_n (pc := 127) dX11_count_127 rfl rfl ?_
      refine tz_bipush (pc := 128) dX11_count_128 (by decide) ?_
      refine tz_aL (pc := 130) (z := 6) (v := (J 19 6)) dX11_count_130 a_19 rfl (by decide) rfl (fun r_130 => ?_)
      exact tz_iret (pc := 131) (z := (J 19 6)) dX11_count_131 rfl (Nat.le_of_ble_eq_true rfl) (Nat.le_of_ble_eq_true rfl) ⟨Nat.le_refl _, Nat.le_add_right _ _⟩ ⟨_, rfl, (by omega), (by first | exact (by have hw := hI.uni u3 rfl u1; exact ⟨⟨⟨m, hw.1⟩, by omega, hw.2.1, hw.2.2⟩, cc.wk7 hI u3 rfl⟩) | exact ⟨CQ.rf hI, cc⟩)⟩
    · refine tz_tabIn (pc := 12) (tgt := 132) 6 dX11_count_12 hc_12 (by decide) rfl (by decide) ?_
      refine tz_aload_n (pc := 132) dX11_count_132 rfl rfl ?_
      refine tz_iconst (pc := 133) dX11_count_133 ?_
      refine tz_aL (pc := 134) (z := 2) (v := (J 19 2)) dX11_count_134 a_19 rfl (by decide) rfl (fun r_134 => ?_)
      exact tz_iret (pc := 135) (z := (J 19 2)) dX11_count_135 rfl (Nat.le_of_ble_eq_true rfl) (Nat.le_of_ble_eq_true rfl) ⟨Nat.le_refl _, Nat.le_add_right _ _⟩ ⟨_, rfl, (by omega), (by first | exact (by have hw := hI.uni u3 rfl u1; exact ⟨⟨⟨m, hw.1⟩, by omega, hw.2.1, hw.2.2⟩, cc.wk7 hI u3 rfl⟩) | exact ⟨CQ.rf hI, cc⟩)⟩
    · refine tz_tabIn (pc := 12) (tgt := 136) 7 dX11_count_12 hc_12 (by decide) rfl (by decide) ?_
      refine tz_aload_n (pc := 136) dX11_count_136 rfl rfl ?_
      refine tz_iconst (pc := 137) dX11_count_137 ?_
      refine tz_aL (pc := 138) (z := 3) (v := (J 19 3)) dX11_count_138 a_19 rfl (by decide) rfl (fun r_138 => ?_)
      exact tz_iret (pc := 139) (z := (J 19 3)) dX11_count_139 rfl (Nat.le_of_ble_eq_true rfl) (Nat.le_of_ble_eq_true rfl) ⟨Nat.le_refl _, Nat.le_add_right _ _⟩ ⟨_, rfl, (by omega), (by first | exact (by have hw := hI.uni u3 rfl u1; exact ⟨⟨⟨m, hw.1⟩, by omega, hw.2.1, hw.2.2⟩, cc.wk7 hI u3 rfl⟩) | exact ⟨CQ.rf hI, cc⟩)⟩
    · refine tz_tabIn (pc := 12) (tgt := 140) 8 dX11_count_12 hc_12 (by decide) rfl (by decide) ?_
      refine tz_aload_n (pc := 140) dX11_count_140 rfl rfl ?_
      refine tz_fR (pc := 141) dX11_count_141 fl_X11_29 r_0_1 ?_
      refine tz_fR (pc := 144) dX11_count_144 fl_X11_49 r_5_0 ?_
      refine tz_cV (pc := 147) (c_unlike hl n _ m hm hb.2) vl_X11_176 dX11_count_147 o_6 rfl rfl (Nat.le_of_ble_eq_true rfl) ⟨(Nat.le_of_ble_eq_true rfl), (Nat.le_of_ble_eq_true rfl)⟩ rfl rfl (Nat.le_of_ble_eq_true rfl) (Nat.le_of_ble_eq_true rfl) (fun r9 J_147 hq9 => ?_)
      obtain ⟨z_147, rfl, hz_147, rfl⟩ := hq9
      exact tz_iret (pc := 150) (z := z_147) dX11_count_150 rfl (Nat.le_of_ble_eq_true rfl) (Nat.le_of_ble_eq_true rfl) ⟨Nat.le_refl _, Nat.le_add_right _ _⟩ ⟨_, rfl, (by omega), (by first | exact (by have hw := hI.uni u3 rfl u1; exact ⟨⟨⟨m, hw.1⟩, by omega, hw.2.1, hw.2.2⟩, cc.wk7 hI u3 rfl⟩) | exact ⟨CQ.rf hI, cc⟩)⟩
    · refine tz_tabIn (pc := 12) (tgt := 151) 9 dX11_count_12 hc_12 (by decide) rfl (by decide) ?_
      refine tz_aload_n (pc := 151) dX11_count_151 rfl rfl ?_
      refine tz_fR (pc := 152) dX11_count_152 fl_X11_81 r_0_9 ?_
      refine tz_cV (pc := 155) (c_meetings hl n _ m hC hL hI.1.2.1 (by omega)) vl_X11_179 dX11_count_155 o_155 rfl rfl (Nat.le_of_ble_eq_true rfl) ⟨(Nat.le_of_ble_eq_true rfl), (Nat.le_of_ble_eq_true rfl)⟩ rfl rfl (Nat.le_of_ble_eq_true rfl) (Nat.le_of_ble_eq_true rfl) (fun r9 J_155 hq9 => ?_)
      obtain ⟨z_155, rfl, hz_155, u1, u2, u3⟩ := hq9
      exact tz_iret (pc := 158) (z := z_155) dX11_count_158 rfl (Nat.le_of_ble_eq_true rfl) (Nat.le_of_ble_eq_true rfl) ⟨Nat.le_refl _, Nat.le_add_right _ _⟩ ⟨_, rfl, (by omega), (by first | exact (by have hw := hI.uni u3 rfl u1; exact ⟨⟨⟨m, hw.1⟩, by omega, hw.2.1, hw.2.2⟩, cc.wk7 hI u3 rfl⟩) | exact ⟨CQ.rf hI, cc⟩)⟩
    · refine tz_tabIn (pc := 12) (tgt := 159) 10 dX11_count_12 hc_12 (by decide) rfl (by decide) ?_
      refine tz_aload_n (pc := 159) dX11_count_159 rfl rfl ?_
      refine tz_fR (pc := 160) dX11_count_160 fl_X11_81 r_0_9 ?_
      refine tz_cV (pc := 163) (c_firstMeet hl n _ m hC hL hI.1.2.1 (by omega)) vl_X11_182 dX11_count_163 o_155 rfl rfl (Nat.le_of_ble_eq_true rfl) ⟨(Nat.le_of_ble_eq_true rfl), (Nat.le_of_ble_eq_true rfl)⟩ rfl rfl (Nat.le_of_ble_eq_true rfl) (Nat.le_of_ble_eq_true rfl) (fun r9 J_163 hq9 => ?_)
      obtain ⟨z_163, rfl, hz_163, u1, u2, u3⟩ := hq9
      exact tz_iret (pc := 166) (z := z_163) dX11_count_166 rfl (Nat.le_of_ble_eq_true rfl) (Nat.le_of_ble_eq_true rfl) ⟨Nat.le_refl _, Nat.le_add_right _ _⟩ ⟨_, rfl, (by omega), (by first | exact (by have hw := hI.uni u3 rfl u1; exact ⟨⟨⟨m, hw.1⟩, by omega, hw.2.1, hw.2.2⟩, cc.wk7 hI u3 rfl⟩) | exact ⟨CQ.rf hI, cc⟩)⟩
    · refine tz_tabIn (pc := 12) (tgt := 167) 11 dX11_count_12 hc_12 (by decide) rfl (by decide) ?_
      refine tz_aload_n (pc := 167) dX11_count_167 rfl rfl ?_
      refine tz_fR (pc := 168) dX11_count_168 fl_X11_29 r_0_1 ?_
      refine tz_fI (pc := 171) (kz := 6) (v := (J 5 6)) dX11_count_171 fl_X11_185 i_5_6 rfl rfl (fun r_171 => ?_)
      exact tz_iret (pc := 174) (z := (J 5 6)) dX11_count_174 rfl (Nat.le_of_ble_eq_true rfl) (Nat.le_of_ble_eq_true rfl) ⟨Nat.le_refl _, Nat.le_add_right _ _⟩ ⟨_, rfl, (by omega), (by first | exact (by have hw := hI.uni u3 rfl u1; exact ⟨⟨⟨m, hw.1⟩, by omega, hw.2.1, hw.2.2⟩, cc.wk7 hI u3 rfl⟩) | exact ⟨CQ.rf hI, cc⟩)⟩
    · refine tz_tabIn (pc := 12) (tgt := 175) 12 dX11_count_12 hc_12 (by decide) rfl (by decide) ?_
      refine tz_aload_n (pc := 175) dX11_count_175 rfl rfl ?_
      refine tz_fI (pc := 176) (kz := 13) (v := (J 0 13)) dX11_count_176 fl_X11_107 i_0_13 rfl rfl (fun r_176 => ?_)
      exact tz_iret (pc := 179) (z := (J 0 13)) dX11_count_179 rfl (Nat.le_of_ble_eq_true rfl) (Nat.le_of_ble_eq_true rfl) ⟨Nat.le_refl _, Nat.le_add_right _ _⟩ ⟨_, rfl, (by omega), (by first | exact (by have hw := hI.uni u3 rfl u1; exact ⟨⟨⟨m, hw.1⟩, by omega, hw.2.1, hw.2.2⟩, cc.wk7 hI u3 rfl⟩) | exact ⟨CQ.rf hI, cc⟩)⟩
    · refine tz_tabIn (pc := 12) (tgt := 180) 13 dX11_count_12 hc_12 (by decide) rfl (by decide) ?_
      refine tz_aload_n (pc := 180) dX11_count_180 rfl rfl ?_
      refine tz_fR (pc := 181) dX11_count_181 fl_X11_29 r_0_1 ?_
      refine tz_fR (pc := 184) dX11_count_184 fl_X11_142 r_5_4 ?_
      refine tz_iload_n (pc := 187) dX11_count_187 rfl rfl ?_
      refine tz_bipush (pc := 188) dX11_count_188 (by decide) ?_
      refine tz_isub (pc := 190) (v := u - 13) dX11_count_190 rfl ?_
      refine tz_aL (pc := 191) (z := (u - 13)) (v := (J 62 (u - 13))) dX11_count_191 a_62 rfl (by omega) rfl (fun r_191 => ?_)
      exact tz_iret (pc := 192) (z := (J 62 (u - 13))) dX11_count_192 rfl (Nat.le_of_ble_eq_true rfl) (Nat.le_of_ble_eq_true rfl) ⟨Nat.le_refl _, Nat.le_add_right _ _⟩ ⟨_, rfl, (by omega), (by first | exact (by have hw := hI.uni u3 rfl u1; exact ⟨⟨⟨m, hw.1⟩, by omega, hw.2.1, hw.2.2⟩, cc.wk7 hI u3 rfl⟩) | exact ⟨CQ.rf hI, cc⟩)⟩
    · refine tz_tabIn (pc := 12) (tgt := 180) 14 dX11_count_12 hc_12 (by decide) rfl (by decide) ?_
      refine tz_aload_n (pc := 180) dX11_count_180 rfl rfl ?_
      refine tz_fR (pc := 181) dX11_count_181 fl_X11_29 r_0_1 ?_
      refine tz_fR (pc := 184) dX11_count_184 fl_X11_142 r_5_4 ?_
      refine tz_iload_n (pc := 187) dX11_count_187 rfl rfl ?_
      refine tz_bipush (pc := 188) dX11_count_188 (by decide) ?_
      refine tz_isub (pc := 190) (v := u - 13) dX11_count_190 rfl ?_
      refine tz_aL (pc := 191) (z := (u - 13)) (v := (J 62 (u - 13))) dX11_count_191 a_62 rfl (by omega) rfl (fun r_191 => ?_)
      exact tz_iret (pc := 192) (z := (J 62 (u - 13))) dX11_count_192 rfl (Nat.le_of_ble_eq_true rfl) (Nat.le_of_ble_eq_true rfl) ⟨Nat.le_refl _, Nat.le_add_right _ _⟩ ⟨_, rfl, (by omega), (by first | exact (by have hw := hI.uni u3 rfl u1; exact ⟨⟨⟨m, hw.1⟩, by omega, hw.2.1, hw.2.2⟩, cc.wk7 hI u3 rfl⟩) | exact ⟨CQ.rf hI, cc⟩)⟩
    · refine tz_tabIn (pc := 12) (tgt := 180) 15 dX11_count_12 hc_12 (by decide) rfl (by decide) ?_
      refine tz_aload_n (pc := 180) dX11_count_180 rfl rfl ?_
      refine tz_fR (pc := 181) dX11_count_181 fl_X11_29 r_0_1 ?_
      refine tz_fR (pc := 184) dX11_count_184 fl_X11_142 r_5_4 ?_
      refine tz_iload_n (pc := 187) dX11_count_187 rfl rfl ?_
      refine tz_bipush (pc := 188) dX11_count_188 (by decide) ?_
      refine tz_isub (pc := 190) (v := u - 13) dX11_count_190 rfl ?_
      refine tz_aL (pc := 191) (z := (u - 13)) (v := (J 62 (u - 13))) dX11_count_191 a_62 rfl (by omega) rfl (fun r_191 => ?_)
      exact tz_iret (pc := 192) (z := (J 62 (u - 13))) dX11_count_192 rfl (Nat.le_of_ble_eq_true rfl) (Nat.le_of_ble_eq_true rfl) ⟨Nat.le_refl _, Nat.le_add_right _ _⟩ ⟨_, rfl, (by omega), (by first | exact (by have hw := hI.uni u3 rfl u1; exact ⟨⟨⟨m, hw.1⟩, by omega, hw.2.1, hw.2.2⟩, cc.wk7 hI u3 rfl⟩) | exact ⟨CQ.rf hI, cc⟩)⟩
    · refine tz_tabIn (pc := 12) (tgt := 180) 16 dX11_count_12 hc_12 (by decide) rfl (by decide) ?_
      refine tz_aload_n (pc := 180) dX11_count_180 rfl rfl ?_
      refine tz_fR (pc := 181) dX11_count_181 fl_X11_29 r_0_1 ?_
      refine tz_fR (pc := 184) dX11_count_184 fl_X11_142 r_5_4 ?_
      refine tz_iload_n (pc := 187) dX11_count_187 rfl rfl ?_
      refine tz_bipush (pc := 188) dX11_count_188 (by decide) ?_
      refine tz_isub (pc := 190) (v := u - 13) dX11_count_190 rfl ?_
      refine tz_aL (pc := 191) (z := (u - 13)) (v := (J 62 (u - 13))) dX11_count_191 a_62 rfl (by omega) rfl (fun r_191 => ?_)
      exact tz_iret (pc := 192) (z := (J 62 (u - 13))) dX11_count_192 rfl (Nat.le_of_ble_eq_true rfl) (Nat.le_of_ble_eq_true rfl) ⟨Nat.le_refl _, Nat.le_add_right _ _⟩ ⟨_, rfl, (by omega), (by first | exact (by have hw := hI.uni u3 rfl u1; exact ⟨⟨⟨m, hw.1⟩, by omega, hw.2.1, hw.2.2⟩, cc.wk7 hI u3 rfl⟩) | exact ⟨CQ.rf hI, cc⟩)⟩

set_option maxHeartbeats 4000000 in
set_option maxRecDepth 100000 in
theorem l_symbol {l : Launch} {G : tb_G} (hl : l.stackTraces = false) (n : Nat) (J : zJ) (s : Int) (u : Int) (hr_s : -2147483648 ≤ s ∧ s < 2147483648) (hr_u : -2147483648 ≤ u ∧ u < 2147483648) (m : Int) (S : zJ) (pn : Int) (RR : Int → Int → Int) (hI : CI J m) (h9 : J 145 10 < 1000000000) (cc : CAL J S pn RR) (h21 : S 164 21 = 0) : tz_Ok l G M_X11_symbol 12 1 6 [.ref 0, zi s, zi u] n J (zqi (fun z J' => CQ J' J ∧ CAL J' S pn RR)) (fun E J' => E = "java/util/NoSuchElementException" ∧ J = J') := by
  refine tz_Ok.of hl (by decide +kernel) rfl (tb_c1 rfl) (Nat.le_of_ble_eq_true rfl) ?_
  show tz_At l G M_X11_symbol (tb_rm 12 1 6) none (tb_ZM G 1 6 (zQ n 1 (zqi (fun z J' => CQ J' J ∧ CAL J' S pn RR))) (zX n 1 (fun E J' => E = "java/util/NoSuchElementException" ∧ J = J'))) 0 0 n J 0 [some (.ref 0), some (zi s), some (zi u)] []
  have hC := hI.1.1.1
  have hm := hI.1.1.2.1
  have hL := hI.1.1.2.2
  have hb := hC.told
  refine tz_aload_n (pc := 0) dX11_symbol_0 rfl rfl ?_
  refine tz_fR (pc := 1) dX11_symbol_1 fl_X11_10 r_0_0 ?_
  refine tz_iload_n (pc := 4) dX11_symbol_4 rfl rfl ?_
  refine tz_cV (pc := 5) (c_syHas hl n _ _ (by omega)) vl_X11_193 dX11_symbol_5 o_1 rfl rfl (Nat.le_of_ble_eq_true rfl) ⟨(Nat.le_of_ble_eq_true rfl), (Nat.le_of_ble_eq_true rfl)⟩ rfl rfl (Nat.le_of_ble_eq_true rfl) (Nat.le_of_ble_eq_true rfl) (fun r9 J_5 hq9 => ?_)
  obtain ⟨z_5, rfl, hz_5, rfl, rfl⟩ := hq9
  by_cases hw_8 : 0 ≤ s ∧ s < J 1 3
  · rw [show (if 0 ≤ s ∧ s < J 1 3 then 1 else 0 : Int) = 1 from if_pos hw_8]
    refine tz_if_neT (pc := 8) (tgt := 21) (by decide) dX11_symbol_8 (by decide) (by decide) ?_
    refine tz_iload_n (pc := 21) dX11_symbol_21 rfl rfl ?_
    by_cases hs_22 : u < 0 ∨ 4 < u
    · refine tz_tabOut (pc := 22) (tgt := 104) dX11_symbol_22 (by omega) hs_22 (by decide) ?_
      exact tz_throwN (pc := 104) (text := "no such question of a symbol") th_X11_188_192 (by decide +kernel) rfl dX11_symbol_104 dX11_symbol_107 dX11_symbol_108 dX11_symbol_110 dX11_symbol_113 (Nat.le_of_ble_eq_true rfl) (Nat.le_of_ble_eq_true rfl) (Nat.le_of_ble_eq_true rfl) (Nat.le_of_ble_eq_true rfl) (Nat.le_of_ble_eq_true rfl) (Nat.le_of_ble_eq_true rfl) ⟨Nat.le_refl _, Nat.le_add_right _ _⟩ ⟨rfl, rfl⟩
    · have hs9 : u = 0 ∨ u = 1 ∨ u = 2 ∨ u = 3 ∨ u = 4 := by omega
      rcases hs9 with hc_22 | hc_22 | hc_22 | hc_22 | hc_22
      · refine tz_tabIn (pc := 22) (tgt := 56) 0 dX11_symbol_22 hc_22 (by decide) rfl (by decide) ?_
        refine tz_aload_n (pc := 56) dX11_symbol_56 rfl rfl ?_
        refine tz_fR (pc := 57) dX11_symbol_57 fl_X11_10 r_0_0 ?_
        refine tz_fR (pc := 60) dX11_symbol_60 fl_X11_199 r_1_0 ?_
        refine tz_iload_n (pc := 63) dX11_symbol_63 rfl rfl ?_
        refine tz_aL (pc := 64) (z := s) (v := (J 2 s)) dX11_symbol_64 a_2 rfl (by omega) rfl (fun r_64 => ?_)
        exact tz_iret (pc := 65) (z := (J 2 s)) dX11_symbol_65 rfl (Nat.le_of_ble_eq_true rfl) (Nat.le_of_ble_eq_true rfl) ⟨Nat.le_refl _, Nat.le_add_right _ _⟩ ⟨_, rfl, (by omega), (by first | exact (by have hw := hI.work6 f1 rfl (k1 hI.1.2.2.1.2); exact ⟨⟨⟨m, hw.1⟩, by rw [hw.2.1]; omega, hw.2.2.1, hw.2.2.2⟩, cc.wk7 hI f1 rfl⟩) | exact ⟨CQ.rf hI, cc⟩)⟩
      · refine tz_tabIn (pc := 22) (tgt := 66) 1 dX11_symbol_22 hc_22 (by decide) rfl (by decide) ?_
        refine tz_aload_n (pc := 66) dX11_symbol_66 rfl rfl ?_
        refine tz_fR (pc := 67) dX11_symbol_67 fl_X11_10 r_0_0 ?_
        refine tz_fR (pc := 70) dX11_symbol_70 fl_X11_202 r_1_1 ?_
        refine tz_iload_n (pc := 73) dX11_symbol_73 rfl rfl ?_
        refine tz_aL (pc := 74) (z := s) (v := (J 3 s)) dX11_symbol_74 a_3 rfl (by omega) rfl (fun r_74 => ?_)
        exact tz_iret (pc := 75) (z := (J 3 s)) dX11_symbol_75 rfl (Nat.le_of_ble_eq_true rfl) (Nat.le_of_ble_eq_true rfl) ⟨Nat.le_refl _, Nat.le_add_right _ _⟩ ⟨_, rfl, (by omega), (by first | exact (by have hw := hI.work6 f1 rfl (k1 hI.1.2.2.1.2); exact ⟨⟨⟨m, hw.1⟩, by rw [hw.2.1]; omega, hw.2.2.1, hw.2.2.2⟩, cc.wk7 hI f1 rfl⟩) | exact ⟨CQ.rf hI, cc⟩)⟩
      · refine tz_tabIn (pc := 22) (tgt := 76) 2 dX11_symbol_22 hc_22 (by decide) rfl (by decide) ?_
        refine tz_aload_n (pc := 76) dX11_symbol_76 rfl rfl ?_
        refine tz_fR (pc := 77) dX11_symbol_77 fl_X11_10 r_0_0 ?_
        refine tz_fR (pc := 80) dX11_symbol_80 fl_X11_205 r_1_2 ?_
        refine tz_iload_n (pc := 83) dX11_symbol_83 rfl rfl ?_
        refine tz_aL (pc := 84) (z := s) (v := (J 4 s)) dX11_symbol_84 a_4 rfl (by omega) rfl (fun r_84 => ?_)
        exact tz_iret (pc := 85) (z := (J 4 s)) dX11_symbol_85 rfl (Nat.le_of_ble_eq_true rfl) (Nat.le_of_ble_eq_true rfl) ⟨Nat.le_refl _, Nat.le_add_right _ _⟩ ⟨_, rfl, (by omega), (by first | exact (by have hw := hI.work6 f1 rfl (k1 hI.1.2.2.1.2); exact ⟨⟨⟨m, hw.1⟩, by rw [hw.2.1]; omega, hw.2.2.1, hw.2.2.2⟩, cc.wk7 hI f1 rfl⟩) | exact ⟨CQ.rf hI, cc⟩)⟩
      · refine tz_tabIn (pc := 22) (tgt := 86) 3 dX11_symbol_22 hc_22 (by decide) rfl (by decide) ?_
        refine tz_aload_n (pc := 86) dX11_symbol_86 rfl rfl ?_
        refine tz_fR (pc := 87) dX11_symbol_87 fl_X11_81 r_0_9 ?_
        refine tz_iload_n (pc := 90) dX11_symbol_90 rfl rfl ?_
        refine tz_cV (pc := 91) (c_fits hl n _ _ (by omega) m hC hm hL) vl_X11_208 dX11_symbol_91 o_155 rfl rfl (Nat.le_of_ble_eq_true rfl) ⟨(Nat.le_of_ble_eq_true rfl), (Nat.le_of_ble_eq_true rfl)⟩ rfl rfl (Nat.le_of_ble_eq_true rfl) (Nat.le_of_ble_eq_true rfl) (fun r9 J_91 hq9 => ?_)
        obtain ⟨z_91, rfl, hz_91, f1, k1⟩ := hq9
        exact tz_iret (pc := 94) (z := z_91) dX11_symbol_94 rfl (Nat.le_of_ble_eq_true rfl) (Nat.le_of_ble_eq_true rfl) ⟨Nat.le_refl _, Nat.le_add_right _ _⟩ ⟨_, rfl, (by omega), (by first | exact (by have hw := hI.work6 f1 rfl (k1 hI.1.2.2.1.2); exact ⟨⟨⟨m, hw.1⟩, by rw [hw.2.1]; omega, hw.2.2.1, hw.2.2.2⟩, cc.wk7 hI f1 rfl⟩) | exact ⟨CQ.rf hI, cc⟩)⟩
      · refine tz_tabIn (pc := 22) (tgt := 95) 4 dX11_symbol_22 hc_22 (by decide) rfl (by decide) ?_
        refine tz_aload_n (pc := 95) dX11_symbol_95 rfl rfl ?_
        refine tz_fR (pc := 96) dX11_symbol_96 fl_X11_81 r_0_9 ?_
        refine tz_iload_n (pc := 99) dX11_symbol_99 rfl rfl ?_
        refine tz_cV (pc := 100) (c_leastFit hl n _ _ (by omega) m hC hm hL) vl_X11_211 dX11_symbol_100 o_155 rfl rfl (Nat.le_of_ble_eq_true rfl) ⟨(Nat.le_of_ble_eq_true rfl), (Nat.le_of_ble_eq_true rfl)⟩ rfl rfl (Nat.le_of_ble_eq_true rfl) (Nat.le_of_ble_eq_true rfl) (fun r9 J_100 hq9 => ?_)
        obtain ⟨z_100, rfl, hz_100, f1, k1⟩ := hq9
        exact tz_iret (pc := 103) (z := z_100) dX11_symbol_103 rfl (Nat.le_of_ble_eq_true rfl) (Nat.le_of_ble_eq_true rfl) ⟨Nat.le_refl _, Nat.le_add_right _ _⟩ ⟨_, rfl, (by omega), (by first | exact (by have hw := hI.work6 f1 rfl (k1 hI.1.2.2.1.2); exact ⟨⟨⟨m, hw.1⟩, by rw [hw.2.1]; omega, hw.2.2.1, hw.2.2.2⟩, cc.wk7 hI f1 rfl⟩) | exact ⟨CQ.rf hI, cc⟩)⟩
  · rw [show (if 0 ≤ s ∧ s < J 1 3 then 1 else 0 : Int) = 0 from if_neg hw_8]
    refine tz_if_neF (pc := 8) (tgt := 21) (by decide) dX11_symbol_8 (by decide) (by decide) ?_
    exact tz_throwN (pc := 11) (text := "no such symbol") th_X11_188_192 (by decide +kernel) rfl dX11_symbol_11 dX11_symbol_14 dX11_symbol_15 dX11_symbol_17 dX11_symbol_20 (Nat.le_of_ble_eq_true rfl) (Nat.le_of_ble_eq_true rfl) (Nat.le_of_ble_eq_true rfl) (Nat.le_of_ble_eq_true rfl) (Nat.le_of_ble_eq_true rfl) (Nat.le_of_ble_eq_true rfl) ⟨Nat.le_refl _, Nat.le_add_right _ _⟩ ⟨rfl, rfl⟩

set_option maxHeartbeats 4000000 in
set_option maxRecDepth 100000 in
theorem l_term {l : Launch} {G : tb_G} (hl : l.stackTraces = false) (n : Nat) (J : zJ) (t : Int) (u : Int) (hr_t : -2147483648 ≤ t ∧ t < 2147483648) (hr_u : -2147483648 ≤ u ∧ u < 2147483648) (m : Int) (S : zJ) (pn : Int) (RR : Int → Int → Int) (hI : CI J m) (h9 : J 145 10 < 1000000000) (cc : CAL J S pn RR) (h21 : S 164 21 = 0) : tz_Ok l G M_X11_term 10 1 6 [.ref 0, zi t, zi u] n J (zqi (fun z J' => CQ J' J ∧ CAL J' S pn RR)) (fun E J' => E = "java/util/NoSuchElementException" ∧ J = J') := by
  refine tz_Ok.of hl (by decide +kernel) rfl (tb_c1 rfl) (Nat.le_of_ble_eq_true rfl) ?_
  show tz_At l G M_X11_term (tb_rm 10 1 6) none (tb_ZM G 1 6 (zQ n 1 (zqi (fun z J' => CQ J' J ∧ CAL J' S pn RR))) (zX n 1 (fun E J' => E = "java/util/NoSuchElementException" ∧ J = J'))) 0 0 n J 0 [some (.ref 0), some (zi t), some (zi u), none] []
  have hC := hI.1.1.1
  have hm := hI.1.1.2.1
  have hL := hI.1.1.2.2
  have hb := hC.told
  refine tz_aload_n (pc := 0) dX11_term_0 rfl rfl ?_
  refine tz_iload_n (pc := 1) dX11_term_1 rfl rfl ?_
  by_cases hh_2 : 0 ≤ t ∧ t < J 6 12
  · refine tz_cV (pc := 2) (c_need1 hl n _ _ (by omega) hh_2) vl_X11_216 dX11_term_2 o_0 rfl rfl (Nat.le_of_ble_eq_true rfl) ⟨(Nat.le_of_ble_eq_true rfl), (Nat.le_of_ble_eq_true rfl)⟩ rfl rfl (Nat.le_of_ble_eq_true rfl) (Nat.le_of_ble_eq_true rfl) (fun r9 J9 hq9 => ?_)
    obtain ⟨rfl, rfl⟩ := hq9
    refine tz_aload_n (pc := 5) dX11_term_5 rfl rfl ?_
    refine tz_fR (pc := 6) dX11_term_6 fl_X11_29 r_0_1 ?_
    refine tz_fR (pc := 9) dX11_term_9 fl_X11_49 r_5_0 ?_
    refine tz_astore_n (pc := 12) (L2 := [_, _, _, _]) dX11_term_12 rfl (by decide) rfl ?_
    refine tz_iload_n (pc := 13) dX11_term_13 rfl rfl ?_
    by_cases hs_14 : u < 0 ∨ 9 < u
    · refine tz_tabOut (pc := 14) (tgt := 177) dX11_term_14 (by omega) hs_14 (by decide) ?_
      exact tz_throwN (pc := 177) (text := "no such question of a term") th_X11_188_192 (by decide +kernel) rfl dX11_term_177 dX11_term_180 dX11_term_181 dX11_term_183 dX11_term_186 (Nat.le_of_ble_eq_true rfl) (Nat.le_of_ble_eq_true rfl) (Nat.le_of_ble_eq_true rfl) (Nat.le_of_ble_eq_true rfl) (Nat.le_of_ble_eq_true rfl) (Nat.le_of_ble_eq_true rfl) ⟨Nat.le_refl _, Nat.le_add_right _ _⟩ ⟨rfl, rfl⟩
    · have hs9 : u = 0 ∨ u = 1 ∨ u = 2 ∨ u = 3 ∨ u = 4 ∨ u = 5 ∨ u = 6 ∨ u = 7 ∨ u = 8 ∨ u = 9 := by omega
      rcases hs9 with hc_14 | hc_14 | hc_14 | hc_14 | hc_14 | hc_14 | hc_14 | hc_14 | hc_14 | hc_14
      · refine tz_tabIn (pc := 14) (tgt := 68) 0 dX11_term_14 hc_14 (by decide) rfl (by decide) ?_
        refine tz_aload_n (pc := 68) dX11_term_68 rfl rfl ?_
        refine tz_iload_n (pc := 69) dX11_term_69 rfl rfl ?_
        refine tz_cV (pc := 70) (c_isVar hl n _ _ (by omega) (by omega)) vl_X11_219 dX11_term_70 o_6 rfl rfl (Nat.le_of_ble_eq_true rfl) ⟨(Nat.le_of_ble_eq_true rfl), (Nat.le_of_ble_eq_true rfl)⟩ rfl rfl (Nat.le_of_ble_eq_true rfl) (Nat.le_of_ble_eq_true rfl) (fun r9 J_70 hq9 => ?_)
        obtain ⟨z_70, rfl, hz_70, rfl, rfl⟩ := hq9
        by_cases hw_73 : J 7 t < 0
        · rw [show (if J 7 t < 0 then 1 else 0 : Int) = 1 from if_pos hw_73]
          refine tz_if_eqF (pc := 73) (tgt := 80) (by decide) dX11_term_73 (by decide) (by decide) ?_
          refine tz_iconst (pc := 76) dX11_term_76 ?_
          refine tz_goto (pc := 77) (tgt := 86) dX11_term_77 (by decide) ?_
          exact tz_iret (pc := 86) (z := (-1)) dX11_term_86 rfl (Nat.le_of_ble_eq_true rfl) (Nat.le_of_ble_eq_true rfl) ⟨Nat.le_refl _, Nat.le_add_right _ _⟩ ⟨_, rfl, (by decide), (by first | exact (by have hw := hI.work f1 rfl; exact ⟨⟨⟨m, hw.1⟩, by rw [hw.2.1]; omega, hw.2.2.1, hw.2.2.2⟩, cc.wk7 hI f1 rfl⟩) | exact ⟨CQ.rf hI, cc⟩)⟩
        · rw [show (if J 7 t < 0 then 1 else 0 : Int) = 0 from if_neg hw_73]
          refine tz_if_eqT (pc := 73) (tgt := 80) (by decide) dX11_term_73 (by decide) (by decide) ?_
          refine tz_aload_n (pc := 80) dX11_term_80 rfl rfl ?_
          refine tz_fR (pc := 81) dX11_term_81 fl_X11_222 r_6_1 ?_
          refine tz_iload_n (pc := 84) dX11_term_84 rfl rfl ?_
          refine tz_aL (pc := 85) (z := t) (v := (J 7 t)) dX11_term_85 a_7 rfl (by omega) rfl (fun r_85 => ?_)
          exact tz_iret (pc := 86) (z := (J 7 t)) dX11_term_86 rfl (Nat.le_of_ble_eq_true rfl) (Nat.le_of_ble_eq_true rfl) ⟨Nat.le_refl _, Nat.le_add_right _ _⟩ ⟨_, rfl, (by omega), (by first | exact (by have hw := hI.work f1 rfl; exact ⟨⟨⟨m, hw.1⟩, by rw [hw.2.1]; omega, hw.2.2.1, hw.2.2.2⟩, cc.wk7 hI f1 rfl⟩) | exact ⟨CQ.rf hI, cc⟩)⟩
      · refine tz_tabIn (pc := 14) (tgt := 87) 1 dX11_term_14 hc_14 (by decide) rfl (by decide) ?_
        refine tz_aload_n (pc := 87) dX11_term_87 rfl rfl ?_
        refine tz_iload_n (pc := 88) dX11_term_88 rfl rfl ?_
        refine tz_cV (pc := 89) (c_isVar hl n _ _ (by omega) (by omega)) vl_X11_219 dX11_term_89 o_6 rfl rfl (Nat.le_of_ble_eq_true rfl) ⟨(Nat.le_of_ble_eq_true rfl), (Nat.le_of_ble_eq_true rfl)⟩ rfl rfl (Nat.le_of_ble_eq_true rfl) (Nat.le_of_ble_eq_true rfl) (fun r9 J_89 hq9 => ?_)
        obtain ⟨z_89, rfl, hz_89, rfl, rfl⟩ := hq9
        by_cases hw_92 : J 7 t < 0
        · rw [show (if J 7 t < 0 then 1 else 0 : Int) = 1 from if_pos hw_92]
          refine tz_if_eqF (pc := 92) (tgt := 106) (by decide) dX11_term_92 (by decide) (by decide) ?_
          refine tz_aload_n (pc := 95) dX11_term_95 rfl rfl ?_
          refine tz_fR (pc := 96) dX11_term_96 fl_X11_222 r_6_1 ?_
          refine tz_iload_n (pc := 99) dX11_term_99 rfl rfl ?_
          refine tz_aL (pc := 100) (z := t) (v := (J 7 t)) dX11_term_100 a_7 rfl (by omega) rfl (fun r_100 => ?_)
          refine tz_iconst (pc := 101) dX11_term_101 ?_
          refine tz_ixor (pc := 102) (v := zxor (J 7 t) (-1)) dX11_term_102 rfl ?_
          refine tz_goto (pc := 103) (tgt := 107) dX11_term_103 (by decide) ?_
          exact tz_iret (pc := 107) (z := (zxor (J 7 t) (-1))) dX11_term_107 rfl (Nat.le_of_ble_eq_true rfl) (Nat.le_of_ble_eq_true rfl) ⟨Nat.le_refl _, Nat.le_add_right _ _⟩ ⟨_, rfl, (zxor_rg _ _), (by first | exact (by have hw := hI.work f1 rfl; exact ⟨⟨⟨m, hw.1⟩, by rw [hw.2.1]; omega, hw.2.2.1, hw.2.2.2⟩, cc.wk7 hI f1 rfl⟩) | exact ⟨CQ.rf hI, cc⟩)⟩
        · rw [show (if J 7 t < 0 then 1 else 0 : Int) = 0 from if_neg hw_92]
          refine tz_if_eqT (pc := 92) (tgt := 106) (by decide) dX11_term_92 (by decide) (by decide) ?_
          refine tz_iconst (pc := 106) dX11_term_106 ?_
          exact tz_iret (pc := 107) (z := (-1)) dX11_term_107 rfl (Nat.le_of_ble_eq_true rfl) (Nat.le_of_ble_eq_true rfl) ⟨Nat.le_refl _, Nat.le_add_right _ _⟩ ⟨_, rfl, (by decide), (by first | exact (by have hw := hI.work f1 rfl; exact ⟨⟨⟨m, hw.1⟩, by rw [hw.2.1]; omega, hw.2.2.1, hw.2.2.2⟩, cc.wk7 hI f1 rfl⟩) | exact ⟨CQ.rf hI, cc⟩)⟩
      · refine tz_tabIn (pc := 14) (tgt := 108) 2 dX11_term_14 hc_14 (by decide) rfl (by decide) ?_
        refine tz_aload_n (pc := 108) dX11_term_108 rfl rfl ?_
        refine tz_fR (pc := 109) dX11_term_109 fl_X11_225 r_6_4 ?_
        refine tz_iload_n (pc := 112) dX11_term_112 rfl rfl ?_
        refine tz_aL (pc := 113) (z := t) (v := (J 10 t)) dX11_term_113 a_10 rfl (by omega) rfl (fun r_113 => ?_)
        exact tz_iret (pc := 114) (z := (J 10 t)) dX11_term_114 rfl (Nat.le_of_ble_eq_true rfl) (Nat.le_of_ble_eq_true rfl) ⟨Nat.le_refl _, Nat.le_add_right _ _⟩ ⟨_, rfl, (by omega), (by first | exact (by have hw := hI.work f1 rfl; exact ⟨⟨⟨m, hw.1⟩, by rw [hw.2.1]; omega, hw.2.2.1, hw.2.2.2⟩, cc.wk7 hI f1 rfl⟩) | exact ⟨CQ.rf hI, cc⟩)⟩
      · refine tz_tabIn (pc := 14) (tgt := 115) 3 dX11_term_14 hc_14 (by decide) rfl (by decide) ?_
        refine tz_aload_n (pc := 115) dX11_term_115 rfl rfl ?_
        refine tz_iload_n (pc := 116) dX11_term_116 rfl rfl ?_
        refine tz_cV (pc := 117) (c_shared hl n _ _ (by omega) m hC (by omega)) vl_X11_228 dX11_term_117 o_6 rfl rfl (Nat.le_of_ble_eq_true rfl) ⟨(Nat.le_of_ble_eq_true rfl), (Nat.le_of_ble_eq_true rfl)⟩ rfl rfl (Nat.le_of_ble_eq_true rfl) (Nat.le_of_ble_eq_true rfl) (fun r9 J_117 hq9 => ?_)
        obtain ⟨z_117, rfl, hz_117, f1, -⟩ := hq9
        exact tz_iret (pc := 120) (z := z_117) dX11_term_120 rfl (Nat.le_of_ble_eq_true rfl) (Nat.le_of_ble_eq_true rfl) ⟨Nat.le_refl _, Nat.le_add_right _ _⟩ ⟨_, rfl, (by omega), (by first | exact (by have hw := hI.work f1 rfl; exact ⟨⟨⟨m, hw.1⟩, by rw [hw.2.1]; omega, hw.2.2.1, hw.2.2.2⟩, cc.wk7 hI f1 rfl⟩) | exact ⟨CQ.rf hI, cc⟩)⟩
      · refine tz_tabIn (pc := 14) (tgt := 121) 4 dX11_term_14 hc_14 (by decide) rfl (by decide) ?_
        refine tz_aload_n (pc := 121) dX11_term_121 rfl rfl ?_
        refine tz_fR (pc := 122) dX11_term_122 fl_X11_231 r_6_6 ?_
        refine tz_iload_n (pc := 125) dX11_term_125 rfl rfl ?_
        refine tz_aL (pc := 126) (z := t) (v := (J 12 t)) dX11_term_126 a_12 rfl (by omega) rfl (fun r_126 => ?_)
        exact tz_iret (pc := 127) (z := (J 12 t)) dX11_term_127 rfl (Nat.le_of_ble_eq_true rfl) (Nat.le_of_ble_eq_true rfl) ⟨Nat.le_refl _, Nat.le_add_right _ _⟩ ⟨_, rfl, (by omega), (by first | exact (by have hw := hI.work f1 rfl; exact ⟨⟨⟨m, hw.1⟩, by rw [hw.2.1]; omega, hw.2.2.1, hw.2.2.2⟩, cc.wk7 hI f1 rfl⟩) | exact ⟨CQ.rf hI, cc⟩)⟩
      · refine tz_tabIn (pc := 14) (tgt := 128) 5 dX11_term_14 hc_14 (by decide) rfl (by decide) ?_
        refine tz_aload_n (pc := 128) dX11_term_128 rfl rfl ?_
        refine tz_fR (pc := 129) dX11_term_129 fl_X11_234 r_6_5 ?_
        refine tz_iload_n (pc := 132) dX11_term_132 rfl rfl ?_
        refine tz_aL (pc := 133) (z := t) (v := (J 11 t)) dX11_term_133 a_11 rfl (by omega) rfl (fun r_133 => ?_)
        exact tz_iret (pc := 134) (z := (J 11 t)) dX11_term_134 rfl (Nat.le_of_ble_eq_true rfl) (Nat.le_of_ble_eq_true rfl) ⟨Nat.le_refl _, Nat.le_add_right _ _⟩ ⟨_, rfl, (by omega), (by first | exact (by have hw := hI.work f1 rfl; exact ⟨⟨⟨m, hw.1⟩, by rw [hw.2.1]; omega, hw.2.2.1, hw.2.2.2⟩, cc.wk7 hI f1 rfl⟩) | exact ⟨CQ.rf hI, cc⟩)⟩
      · refine tz_tabIn (pc := 14) (tgt := 135) 6 dX11_term_14 hc_14 (by decide) rfl (by decide) ?_
        refine tz_aload_n (pc := 135) dX11_term_135 rfl rfl ?_
        refine tz_fR (pc := 136) dX11_term_136 fl_X11_235 r_6_7 ?_
        refine tz_iload_n (pc := 139) dX11_term_139 rfl rfl ?_
        refine tz_aL (pc := 140) (z := t) (v := (J 13 t)) dX11_term_140 a_13 rfl (by omega) rfl (fun r_140 => ?_)
        exact tz_iret (pc := 141) (z := (J 13 t)) dX11_term_141 rfl (Nat.le_of_ble_eq_true rfl) (Nat.le_of_ble_eq_true rfl) ⟨Nat.le_refl _, Nat.le_add_right _ _⟩ ⟨_, rfl, (by omega), (by first | exact (by have hw := hI.work f1 rfl; exact ⟨⟨⟨m, hw.1⟩, by rw [hw.2.1]; omega, hw.2.2.1, hw.2.2.2⟩, cc.wk7 hI f1 rfl⟩) | exact ⟨CQ.rf hI, cc⟩)⟩
      · refine tz_tabIn (pc := 14) (tgt := 142) 7 dX11_term_14 hc_14 (by decide) rfl (by decide) ?_
        refine tz_aload_n (pc := 142) dX11_term_142 rfl rfl ?_
        refine tz_iload_n (pc := 143) dX11_term_143 rfl rfl ?_
        refine tz_cV (pc := 144) (c_users hl n _ _ (by omega) m hC hm (by omega)) vl_X11_238 dX11_term_144 o_6 rfl rfl (Nat.le_of_ble_eq_true rfl) ⟨(Nat.le_of_ble_eq_true rfl), (Nat.le_of_ble_eq_true rfl)⟩ rfl rfl (Nat.le_of_ble_eq_true rfl) (Nat.le_of_ble_eq_true rfl) (fun r9 J_144 hq9 => ?_)
        obtain ⟨z_144, rfl, hz_144, rfl⟩ := hq9
        exact tz_iret (pc := 147) (z := z_144) dX11_term_147 rfl (Nat.le_of_ble_eq_true rfl) (Nat.le_of_ble_eq_true rfl) ⟨Nat.le_refl _, Nat.le_add_right _ _⟩ ⟨_, rfl, (by omega), (by first | exact (by have hw := hI.work f1 rfl; exact ⟨⟨⟨m, hw.1⟩, by rw [hw.2.1]; omega, hw.2.2.1, hw.2.2.2⟩, cc.wk7 hI f1 rfl⟩) | exact ⟨CQ.rf hI, cc⟩)⟩
      · refine tz_tabIn (pc := 14) (tgt := 148) 8 dX11_term_14 hc_14 (by decide) rfl (by decide) ?_
        refine tz_aload_n (pc := 148) dX11_term_148 rfl rfl ?_
        refine tz_fR (pc := 149) dX11_term_149 fl_X11_29 r_0_1 ?_
        refine tz_fR (pc := 152) dX11_term_152 fl_X11_156 r_5_1 ?_
        refine tz_iload_n (pc := 155) dX11_term_155 rfl rfl ?_
        refine tz_cV (pc := 156) (c_entryOf hl n _ _ (by omega) hL.1.2.2.1) vl_X11_241 dX11_term_156 o_18 rfl rfl (Nat.le_of_ble_eq_true rfl) ⟨(Nat.le_of_ble_eq_true rfl), (Nat.le_of_ble_eq_true rfl)⟩ rfl rfl (Nat.le_of_ble_eq_true rfl) (Nat.le_of_ble_eq_true rfl) (fun r9 J_156 hq9 => ?_)
        obtain ⟨z_156, rfl, hz_156, rfl, -⟩ := hq9
        exact tz_iret (pc := 159) (z := z_156) dX11_term_159 rfl (Nat.le_of_ble_eq_true rfl) (Nat.le_of_ble_eq_true rfl) ⟨Nat.le_refl _, Nat.le_add_right _ _⟩ ⟨_, rfl, (by omega), (by first | exact (by have hw := hI.work f1 rfl; exact ⟨⟨⟨m, hw.1⟩, by rw [hw.2.1]; omega, hw.2.2.1, hw.2.2.2⟩, cc.wk7 hI f1 rfl⟩) | exact ⟨CQ.rf hI, cc⟩)⟩
      · refine tz_tabIn (pc := 14) (tgt := 160) 9 dX11_term_14 hc_14 (by decide) rfl (by decide) ?_
        refine tz_aload_n (pc := 160) dX11_term_160 rfl rfl ?_
        refine tz_fR (pc := 161) dX11_term_161 fl_X11_81 r_0_9 ?_
        refine tz_iload_n (pc := 164) dX11_term_164 rfl rfl ?_
        refine tz_cV (pc := 165) (c_isReduced hl n _ _ (by omega) m hC hL (by omega)) vl_X11_244 dX11_term_165 o_155 rfl rfl (Nat.le_of_ble_eq_true rfl) ⟨(Nat.le_of_ble_eq_true rfl), (Nat.le_of_ble_eq_true rfl)⟩ rfl rfl (Nat.le_of_ble_eq_true rfl) (Nat.le_of_ble_eq_true rfl) (fun r9 J_165 hq9 => ?_)
        obtain ⟨z_165, rfl, hz_165, hz1, f1⟩ := hq9
        refine tz_if_eq (pc := 168) (tgt := 175) dX11_term_168 (by decide) (by omega) (fun h_168 => ?_) (fun h_168 => ?_)
        · refine tz_iconst (pc := 175) dX11_term_175 ?_
          exact tz_iret (pc := 176) (z := 0) dX11_term_176 rfl (Nat.le_of_ble_eq_true rfl) (Nat.le_of_ble_eq_true rfl) ⟨Nat.le_refl _, Nat.le_add_right _ _⟩ ⟨_, rfl, (by decide), (by first | exact (by have hw := hI.work f1 rfl; exact ⟨⟨⟨m, hw.1⟩, by rw [hw.2.1]; omega, hw.2.2.1, hw.2.2.2⟩, cc.wk7 hI f1 rfl⟩) | exact ⟨CQ.rf hI, cc⟩)⟩
        · refine tz_iconst (pc := 171) dX11_term_171 ?_
          refine tz_goto (pc := 172) (tgt := 176) dX11_term_172 (by decide) ?_
          exact tz_iret (pc := 176) (z := 1) dX11_term_176 rfl (Nat.le_of_ble_eq_true rfl) (Nat.le_of_ble_eq_true rfl) ⟨Nat.le_refl _, Nat.le_add_right _ _⟩ ⟨_, rfl, (by decide), (by first | exact (by have hw := hI.work f1 rfl; exact ⟨⟨⟨m, hw.1⟩, by rw [hw.2.1]; omega, hw.2.2.1, hw.2.2.2⟩, cc.wk7 hI f1 rfl⟩) | exact ⟨CQ.rf hI, cc⟩)⟩
  · refine tz_cVX (pc := 2) (c_need0 hl n _ _ (by omega) hh_2) vl_X11_216 dX11_term_2 o_0 rfl rfl (Nat.le_of_ble_eq_true rfl) ⟨(Nat.le_of_ble_eq_true rfl), (Nat.le_of_ble_eq_true rfl)⟩ rfl rfl (Nat.le_of_ble_eq_true rfl) (Nat.le_of_ble_eq_true rfl) (fun r9 n9 J9 hn1 hn2 hq9 => hq9.elim) (fun E9 n9 J9 hn1 hn2 hx9 => ?_)
    obtain ⟨rfl, rfl⟩ := hx9
    exact tz_out rfl (Nat.le_of_ble_eq_true rfl) (Nat.le_of_ble_eq_true rfl) ⟨by omega, by omega⟩ ⟨rfl, rfl⟩

set_option maxHeartbeats 4000000 in
set_option maxRecDepth 100000 in
theorem l_argument {l : Launch} {G : tb_G} (hl : l.stackTraces = false) (n : Nat) (J : zJ) (t : Int) (i : Int) (hr_t : -2147483648 ≤ t ∧ t < 2147483648) (hr_i : -2147483648 ≤ i ∧ i < 2147483648) (m : Int) (S : zJ) (pn : Int) (RR : Int → Int → Int) (hI : CI J m) (h9 : J 145 10 < 1000000000) (cc : CAL J S pn RR) (h21 : S 164 21 = 0) : tz_Ok l G M_X11_argument 7 1 6 [.ref 0, zi t, zi i] n J (zqi (fun z J' => CQ J' J ∧ CAL J' S pn RR)) (fun E J' => E = "java/util/NoSuchElementException" ∧ J = J') := by
  refine tz_Ok.of hl (by decide +kernel) rfl (tb_c1 rfl) (Nat.le_of_ble_eq_true rfl) ?_
  show tz_At l G M_X11_argument (tb_rm 7 1 6) none (tb_ZM G 1 6 (zQ n 1 (zqi (fun z J' => CQ J' J ∧ CAL J' S pn RR))) (zX n 1 (fun E J' => E = "java/util/NoSuchElementException" ∧ J = J'))) 0 0 n J 0 [some (.ref 0), some (zi t), some (zi i)] []
  have hC := hI.1.1.1
  have hm := hI.1.1.2.1
  have hL := hI.1.1.2.2
  have hb := hC.told
  refine tz_aload_n (pc := 0) dX11_argument_0 rfl rfl ?_
  refine tz_iload_n (pc := 1) dX11_argument_1 rfl rfl ?_
  by_cases hh_2 : 0 ≤ t ∧ t < J 6 12
  · refine tz_cV (pc := 2) (c_need1 hl n _ _ (by omega) hh_2) vl_X11_216 dX11_argument_2 o_0 rfl rfl (Nat.le_of_ble_eq_true rfl) ⟨(Nat.le_of_ble_eq_true rfl), (Nat.le_of_ble_eq_true rfl)⟩ rfl rfl (Nat.le_of_ble_eq_true rfl) (Nat.le_of_ble_eq_true rfl) (fun r9 J9 hq9 => ?_)
    obtain ⟨rfl, rfl⟩ := hq9
    refine tz_iload_n (pc := 5) dX11_argument_5 rfl rfl ?_
    refine tz_if_lt (pc := 6) (tgt := 25) dX11_argument_6 (by decide) (by omega) (fun h_6 => ?_) (fun h_6 => ?_)
    · exact tz_throwN (pc := 25) (text := "no such argument") th_X11_188_192 (by decide +kernel) rfl dX11_argument_25 dX11_argument_28 dX11_argument_29 dX11_argument_31 dX11_argument_34 (Nat.le_of_ble_eq_true rfl) (Nat.le_of_ble_eq_true rfl) (Nat.le_of_ble_eq_true rfl) (Nat.le_of_ble_eq_true rfl) (Nat.le_of_ble_eq_true rfl) (Nat.le_of_ble_eq_true rfl) ⟨Nat.le_refl _, Nat.le_add_right _ _⟩ ⟨rfl, rfl⟩
    · refine tz_iload_n (pc := 9) dX11_argument_9 rfl rfl ?_
      refine tz_aload_n (pc := 10) dX11_argument_10 rfl rfl ?_
      refine tz_fR (pc := 11) dX11_argument_11 fl_X11_29 r_0_1 ?_
      refine tz_fR (pc := 14) dX11_argument_14 fl_X11_49 r_5_0 ?_
      refine tz_fR (pc := 17) dX11_argument_17 fl_X11_249 r_6_2 ?_
      refine tz_iload_n (pc := 20) dX11_argument_20 rfl rfl ?_
      have ha := hC.ar (t := t) (by omega) (by omega)
      refine tz_aL (pc := 21) (z := t) (v := (J 8 t)) dX11_argument_21 a_8 rfl (by omega) rfl (fun r_21 => ?_)
      refine tz_icmp_lt (pc := 22) (tgt := 35) dX11_argument_22 (by decide) (by omega) (by omega) (fun h_22 => ?_) (fun h_22 => ?_)
      · refine tz_aload_n (pc := 35) dX11_argument_35 rfl rfl ?_
        refine tz_fR (pc := 36) dX11_argument_36 fl_X11_29 r_0_1 ?_
        refine tz_fR (pc := 39) dX11_argument_39 fl_X11_49 r_5_0 ?_
        refine tz_iload_n (pc := 42) dX11_argument_42 rfl rfl ?_
        refine tz_iload_n (pc := 43) dX11_argument_43 rfl rfl ?_
        have ha := hC.ar (t := t) (by omega) (by omega)
        refine tz_cV (pc := 44) (c_arg hl n _ _ _ (by omega) (by omega) (by omega)) vl_X11_252 dX11_argument_44 o_6 rfl rfl (Nat.le_of_ble_eq_true rfl) ⟨(Nat.le_of_ble_eq_true rfl), (Nat.le_of_ble_eq_true rfl)⟩ rfl rfl (Nat.le_of_ble_eq_true rfl) (Nat.le_of_ble_eq_true rfl) (fun r9 J_44 hq9 => ?_)
        obtain ⟨z_44, rfl, hz_44, rfl, rfl⟩ := hq9
        exact tz_iret (pc := 47) (z := (J 9 (t * 3 + i))) dX11_argument_47 rfl (Nat.le_of_ble_eq_true rfl) (Nat.le_of_ble_eq_true rfl) ⟨Nat.le_refl _, Nat.le_add_right _ _⟩ ⟨_, rfl, (by omega), ⟨CQ.rf hI, cc⟩⟩
      · exact tz_throwN (pc := 25) (text := "no such argument") th_X11_188_192 (by decide +kernel) rfl dX11_argument_25 dX11_argument_28 dX11_argument_29 dX11_argument_31 dX11_argument_34 (Nat.le_of_ble_eq_true rfl) (Nat.le_of_ble_eq_true rfl) (Nat.le_of_ble_eq_true rfl) (Nat.le_of_ble_eq_true rfl) (Nat.le_of_ble_eq_true rfl) (Nat.le_of_ble_eq_true rfl) ⟨Nat.le_refl _, Nat.le_add_right _ _⟩ ⟨rfl, rfl⟩
  · refine tz_cVX (pc := 2) (c_need0 hl n _ _ (by omega) hh_2) vl_X11_216 dX11_argument_2 o_0 rfl rfl (Nat.le_of_ble_eq_true rfl) ⟨(Nat.le_of_ble_eq_true rfl), (Nat.le_of_ble_eq_true rfl)⟩ rfl rfl (Nat.le_of_ble_eq_true rfl) (Nat.le_of_ble_eq_true rfl) (fun r9 n9 J9 hn1 hn2 hq9 => hq9.elim) (fun E9 n9 J9 hn1 hn2 hx9 => ?_)
    obtain ⟨rfl, rfl⟩ := hx9
    exact tz_out rfl (Nat.le_of_ble_eq_true rfl) (Nat.le_of_ble_eq_true rfl) ⟨by omega, by omega⟩ ⟨rfl, rfl⟩

set_option maxHeartbeats 4000000 in
set_option maxRecDepth 100000 in
theorem l_place {l : Launch} {G : tb_G} (hl : l.stackTraces = false) (n : Nat) (J : zJ) (t : Int) (p : Int) (hr_t : -2147483648 ≤ t ∧ t < 2147483648) (hr_p : -2147483648 ≤ p ∧ p < 2147483648) (m : Int) (S : zJ) (pn : Int) (RR : Int → Int → Int) (hI : CI J m) (h9 : J 145 10 < 1000000000) (cc : CAL J S pn RR) (h21 : S 164 21 = 0) : tz_Ok l G M_X11_place 7 1 6 [.ref 0, zi t, zi p] n J (zqi (fun z J' => CQ J' J ∧ CAL J' S pn RR)) (fun E J' => E = "java/util/NoSuchElementException" ∧ J = J') := by
  refine tz_Ok.of hl (by decide +kernel) rfl (tb_c1 rfl) (Nat.le_of_ble_eq_true rfl) ?_
  show tz_At l G M_X11_place (tb_rm 7 1 6) none (tb_ZM G 1 6 (zQ n 1 (zqi (fun z J' => CQ J' J ∧ CAL J' S pn RR))) (zX n 1 (fun E J' => E = "java/util/NoSuchElementException" ∧ J = J'))) 0 0 n J 0 [some (.ref 0), some (zi t), some (zi p)] []
  have hC := hI.1.1.1
  have hm := hI.1.1.2.1
  have hL := hI.1.1.2.2
  have hb := hC.told
  refine tz_aload_n (pc := 0) dX11_place_0 rfl rfl ?_
  refine tz_iload_n (pc := 1) dX11_place_1 rfl rfl ?_
  by_cases hh_2 : 0 ≤ t ∧ t < J 6 12
  · refine tz_cV (pc := 2) (c_need1 hl n _ _ (by omega) hh_2) vl_X11_216 dX11_place_2 o_0 rfl rfl (Nat.le_of_ble_eq_true rfl) ⟨(Nat.le_of_ble_eq_true rfl), (Nat.le_of_ble_eq_true rfl)⟩ rfl rfl (Nat.le_of_ble_eq_true rfl) (Nat.le_of_ble_eq_true rfl) (fun r9 J9 hq9 => ?_)
    obtain ⟨rfl, rfl⟩ := hq9
    refine tz_aload_n (pc := 5) dX11_place_5 rfl rfl ?_
    refine tz_fR (pc := 6) dX11_place_6 fl_X11_29 r_0_1 ?_
    refine tz_fR (pc := 9) dX11_place_9 fl_X11_49 r_5_0 ?_
    refine tz_iload_n (pc := 12) dX11_place_12 rfl rfl ?_
    refine tz_iload_n (pc := 13) dX11_place_13 rfl rfl ?_
    refine tz_cV (pc := 14) (c_hasPlace hl n _ _ _ (by omega) (by omega) (by omega)) vl_X11_256 dX11_place_14 o_6 rfl rfl (Nat.le_of_ble_eq_true rfl) ⟨(Nat.le_of_ble_eq_true rfl), (Nat.le_of_ble_eq_true rfl)⟩ rfl rfl (Nat.le_of_ble_eq_true rfl) (Nat.le_of_ble_eq_true rfl) (fun r9 J_14 hq9 => ?_)
    obtain ⟨z_14, rfl, hz_14, rfl, rfl⟩ := hq9
    by_cases hw_17 : 0 ≤ p ∧ p < J 10 t
    · rw [show (if 0 ≤ p ∧ p < J 10 t then 1 else 0 : Int) = 1 from if_pos hw_17]
      refine tz_if_neT (pc := 17) (tgt := 31) (by decide) dX11_place_17 (by decide) (by decide) ?_
      refine tz_aload_n (pc := 31) dX11_place_31 rfl rfl ?_
      refine tz_fR (pc := 32) dX11_place_32 fl_X11_29 r_0_1 ?_
      refine tz_fR (pc := 35) dX11_place_35 fl_X11_49 r_5_0 ?_
      refine tz_iload_n (pc := 38) dX11_place_38 rfl rfl ?_
      refine tz_iload_n (pc := 39) dX11_place_39 rfl rfl ?_
      refine tz_cV (pc := 40) (c_inPlace hl n _ _ _ (by omega) (by omega) m hC (by omega) (by omega)) vl_X11_262 dX11_place_40 o_6 rfl rfl (Nat.le_of_ble_eq_true rfl) ⟨(Nat.le_of_ble_eq_true rfl), (Nat.le_of_ble_eq_true rfl)⟩ rfl rfl (Nat.le_of_ble_eq_true rfl) (Nat.le_of_ble_eq_true rfl) (fun r9 J_40 hq9 => ?_)
      obtain ⟨z_40, rfl, hz_40, rfl, -⟩ := hq9
      exact tz_iret (pc := 43) (z := z_40) dX11_place_43 rfl (Nat.le_of_ble_eq_true rfl) (Nat.le_of_ble_eq_true rfl) ⟨Nat.le_refl _, Nat.le_add_right _ _⟩ ⟨_, rfl, (by omega), ⟨CQ.rf hI, cc⟩⟩
    · rw [show (if 0 ≤ p ∧ p < J 10 t then 1 else 0 : Int) = 0 from if_neg hw_17]
      refine tz_if_neF (pc := 17) (tgt := 31) (by decide) dX11_place_17 (by decide) (by decide) ?_
      exact tz_throwNW (pc := 20) (text := "no such place") th_X11_188_192 (by decide +kernel) rfl dX11_place_20 dX11_place_23 dX11_place_24 dX11_place_27 dX11_place_30 (Nat.le_of_ble_eq_true rfl) (Nat.le_of_ble_eq_true rfl) (Nat.le_of_ble_eq_true rfl) (Nat.le_of_ble_eq_true rfl) (Nat.le_of_ble_eq_true rfl) (Nat.le_of_ble_eq_true rfl) ⟨Nat.le_refl _, Nat.le_add_right _ _⟩ ⟨rfl, rfl⟩
  · refine tz_cVX (pc := 2) (c_need0 hl n _ _ (by omega) hh_2) vl_X11_216 dX11_place_2 o_0 rfl rfl (Nat.le_of_ble_eq_true rfl) ⟨(Nat.le_of_ble_eq_true rfl), (Nat.le_of_ble_eq_true rfl)⟩ rfl rfl (Nat.le_of_ble_eq_true rfl) (Nat.le_of_ble_eq_true rfl) (fun r9 n9 J9 hn1 hn2 hq9 => hq9.elim) (fun E9 n9 J9 hn1 hn2 hx9 => ?_)
    obtain ⟨rfl, rfl⟩ := hx9
    exact tz_out rfl (Nat.le_of_ble_eq_true rfl) (Nat.le_of_ble_eq_true rfl) ⟨by omega, by omega⟩ ⟨rfl, rfl⟩

set_option maxHeartbeats 4000000 in
set_option maxRecDepth 100000 in
theorem l_order {l : Launch} {G : tb_G} (hl : l.stackTraces = false) (n : Nat) (J : zJ) (s : Int) (t : Int) (hr_s : -2147483648 ≤ s ∧ s < 2147483648) (hr_t : -2147483648 ≤ t ∧ t < 2147483648) (m : Int) (S : zJ) (pn : Int) (RR : Int → Int → Int) (hI : CI J m) (h9 : J 145 10 < 1000000000) (cc : CAL J S pn RR) (h21 : S 164 21 = 0) : tz_Ok l G M_X11_order 10 1 6 [.ref 0, zi s, zi t] n J (zqi (fun z J' => CQ J' J ∧ CAL J' S pn RR)) (fun E J' => E = "java/util/NoSuchElementException" ∧ J = J') := by
  refine tz_Ok.of hl (by decide +kernel) rfl (tb_c1 rfl) (Nat.le_of_ble_eq_true rfl) ?_
  show tz_At l G M_X11_order (tb_rm 10 1 6) none (tb_ZM G 1 6 (zQ n 1 (zqi (fun z J' => CQ J' J ∧ CAL J' S pn RR))) (zX n 1 (fun E J' => E = "java/util/NoSuchElementException" ∧ J = J'))) 0 0 n J 0 [some (.ref 0), some (zi s), some (zi t)] []
  have hC := hI.1.1.1
  have hm := hI.1.1.2.1
  have hL := hI.1.1.2.2
  have hb := hC.told
  refine tz_aload_n (pc := 0) dX11_order_0 rfl rfl ?_
  refine tz_iload_n (pc := 1) dX11_order_1 rfl rfl ?_
  by_cases hh_2 : 0 ≤ s ∧ s < J 6 12
  · refine tz_cV (pc := 2) (c_need1 hl n _ _ (by omega) hh_2) vl_X11_216 dX11_order_2 o_0 rfl rfl (Nat.le_of_ble_eq_true rfl) ⟨(Nat.le_of_ble_eq_true rfl), (Nat.le_of_ble_eq_true rfl)⟩ rfl rfl (Nat.le_of_ble_eq_true rfl) (Nat.le_of_ble_eq_true rfl) (fun r9 J9 hq9 => ?_)
    obtain ⟨rfl, rfl⟩ := hq9
    refine tz_aload_n (pc := 5) dX11_order_5 rfl rfl ?_
    refine tz_iload_n (pc := 6) dX11_order_6 rfl rfl ?_
    by_cases hh_7 : 0 ≤ t ∧ t < J 6 12
    · refine tz_cV (pc := 7) (c_need1 hl n _ _ (by omega) hh_7) vl_X11_216 dX11_order_7 o_0 rfl rfl (Nat.le_of_ble_eq_true rfl) ⟨(Nat.le_of_ble_eq_true rfl), (Nat.le_of_ble_eq_true rfl)⟩ rfl rfl (Nat.le_of_ble_eq_true rfl) (Nat.le_of_ble_eq_true rfl) (fun r9 J9 hq9 => ?_)
      obtain ⟨rfl, rfl⟩ := hq9
      refine tz_aload_n (pc := 10) dX11_order_10 rfl rfl ?_
      refine tz_fR (pc := 11) dX11_order_11 fl_X11_81 r_0_9 ?_
      refine tz_iload_n (pc := 14) dX11_order_14 rfl rfl ?_
      refine tz_iload_n (pc := 15) dX11_order_15 rfl rfl ?_
      refine tz_cV (pc := 16) (c_compared hl n _ _ _ (by omega) (by omega) m hC (by omega) (by omega)) vl_X11_265 dX11_order_16 o_155 rfl rfl (Nat.le_of_ble_eq_true rfl) ⟨(Nat.le_of_ble_eq_true rfl), (Nat.le_of_ble_eq_true rfl)⟩ rfl rfl (Nat.le_of_ble_eq_true rfl) (Nat.le_of_ble_eq_true rfl) (fun r9 J_16 hq9 => ?_)
      obtain ⟨z_16, rfl, hz_16, f1, k1⟩ := hq9
      exact tz_iret (pc := 19) (z := z_16) dX11_order_19 rfl (Nat.le_of_ble_eq_true rfl) (Nat.le_of_ble_eq_true rfl) ⟨Nat.le_refl _, Nat.le_add_right _ _⟩ ⟨_, rfl, (by omega), (by have hw := hI.work6 f1 rfl (k1.trans hI.1.2.2.1.2); exact ⟨⟨⟨m, hw.1⟩, by rw [hw.2.1]; omega, hw.2.2.1, hw.2.2.2⟩, cc.wk7 hI f1 rfl⟩)⟩
    · refine tz_cVX (pc := 7) (c_need0 hl n _ _ (by omega) hh_7) vl_X11_216 dX11_order_7 o_0 rfl rfl (Nat.le_of_ble_eq_true rfl) ⟨(Nat.le_of_ble_eq_true rfl), (Nat.le_of_ble_eq_true rfl)⟩ rfl rfl (Nat.le_of_ble_eq_true rfl) (Nat.le_of_ble_eq_true rfl) (fun r9 n9 J9 hn1 hn2 hq9 => hq9.elim) (fun E9 n9 J9 hn1 hn2 hx9 => ?_)
      obtain ⟨rfl, rfl⟩ := hx9
      exact tz_out rfl (Nat.le_of_ble_eq_true rfl) (Nat.le_of_ble_eq_true rfl) ⟨by omega, by omega⟩ ⟨rfl, rfl⟩
  · refine tz_cVX (pc := 2) (c_need0 hl n _ _ (by omega) hh_2) vl_X11_216 dX11_order_2 o_0 rfl rfl (Nat.le_of_ble_eq_true rfl) ⟨(Nat.le_of_ble_eq_true rfl), (Nat.le_of_ble_eq_true rfl)⟩ rfl rfl (Nat.le_of_ble_eq_true rfl) (Nat.le_of_ble_eq_true rfl) (fun r9 n9 J9 hn1 hn2 hq9 => hq9.elim) (fun E9 n9 J9 hn1 hn2 hx9 => ?_)
    obtain ⟨rfl, rfl⟩ := hx9
    exact tz_out rfl (Nat.le_of_ble_eq_true rfl) (Nat.le_of_ble_eq_true rfl) ⟨by omega, by omega⟩ ⟨rfl, rfl⟩

set_option maxHeartbeats 4000000 in
set_option maxRecDepth 100000 in
theorem l_find {l : Launch} {G : tb_G} (hl : l.stackTraces = false) (n : Nat) (J : zJ) (t : Int) (u : Int) (hr_t : -2147483648 ≤ t ∧ t < 2147483648) (hr_u : -2147483648 ≤ u ∧ u < 2147483648) (m : Int) (S : zJ) (pn : Int) (RR : Int → Int → Int) (hI : CI J m) (h9 : J 145 10 < 1000000000) (cc : CAL J S pn RR) (h21 : S 164 21 = 0) : tz_Ok l G M_X11_find 10 1 6 [.ref 0, zi t, zi u] n J (zqi (fun z J' => CQ J' J ∧ CAL J' S pn RR)) (fun E J' => E = "java/util/NoSuchElementException" ∧ J = J') := by
  refine tz_Ok.of hl (by decide +kernel) rfl (tb_c1 rfl) (Nat.le_of_ble_eq_true rfl) ?_
  show tz_At l G M_X11_find (tb_rm 10 1 6) none (tb_ZM G 1 6 (zQ n 1 (zqi (fun z J' => CQ J' J ∧ CAL J' S pn RR))) (zX n 1 (fun E J' => E = "java/util/NoSuchElementException" ∧ J = J'))) 0 0 n J 0 [some (.ref 0), some (zi t), some (zi u)] []
  have hC := hI.1.1.1
  have hm := hI.1.1.2.1
  have hL := hI.1.1.2.2
  have hb := hC.told
  refine tz_aload_n (pc := 0) dX11_find_0 rfl rfl ?_
  refine tz_iload_n (pc := 1) dX11_find_1 rfl rfl ?_
  by_cases hh_2 : 0 ≤ t ∧ t < J 6 12
  · refine tz_cV (pc := 2) (c_need1 hl n _ _ (by omega) hh_2) vl_X11_216 dX11_find_2 o_0 rfl rfl (Nat.le_of_ble_eq_true rfl) ⟨(Nat.le_of_ble_eq_true rfl), (Nat.le_of_ble_eq_true rfl)⟩ rfl rfl (Nat.le_of_ble_eq_true rfl) (Nat.le_of_ble_eq_true rfl) (fun r9 J9 hq9 => ?_)
    obtain ⟨rfl, rfl⟩ := hq9
    refine tz_iload_n (pc := 5) dX11_find_5 rfl rfl ?_
    refine tz_if_lt (pc := 6) (tgt := 14) dX11_find_6 (by decide) (by omega) (fun h_6 => ?_) (fun h_6 => ?_)
    · exact tz_throwNW (pc := 14) (text := "no such question of the index") th_X11_188_192 (by decide +kernel) rfl dX11_find_14 dX11_find_17 dX11_find_18 dX11_find_21 dX11_find_24 (Nat.le_of_ble_eq_true rfl) (Nat.le_of_ble_eq_true rfl) (Nat.le_of_ble_eq_true rfl) (Nat.le_of_ble_eq_true rfl) (Nat.le_of_ble_eq_true rfl) (Nat.le_of_ble_eq_true rfl) ⟨Nat.le_refl _, Nat.le_add_right _ _⟩ ⟨rfl, rfl⟩
    · refine tz_iload_n (pc := 9) dX11_find_9 rfl rfl ?_
      refine tz_iconst (pc := 10) dX11_find_10 ?_
      refine tz_icmp_le (pc := 11) (tgt := 25) dX11_find_11 (by decide) (by omega) (by decide) (fun h_11 => ?_) (fun h_11 => ?_)
      · refine tz_aload_n (pc := 25) dX11_find_25 rfl rfl ?_
        refine tz_fR (pc := 26) dX11_find_26 fl_X11_81 r_0_9 ?_
        refine tz_iload_n (pc := 29) dX11_find_29 rfl rfl ?_
        refine tz_iload_n (pc := 30) dX11_find_30 rfl rfl ?_
        refine tz_cV (pc := 31) (c_found hl n _ _ _ (by omega) (by omega) m hC hL (by omega) hI.1.2.1 (by omega)) vl_X11_270 dX11_find_31 o_155 rfl rfl (Nat.le_of_ble_eq_true rfl) ⟨(Nat.le_of_ble_eq_true rfl), (Nat.le_of_ble_eq_true rfl)⟩ rfl rfl (Nat.le_of_ble_eq_true rfl) (Nat.le_of_ble_eq_true rfl) (fun r9 J_31 hq9 => ?_)
        obtain ⟨z_31, rfl, hz_31, u1, u2, u3⟩ := hq9
        exact tz_iret (pc := 34) (z := z_31) dX11_find_34 rfl (Nat.le_of_ble_eq_true rfl) (Nat.le_of_ble_eq_true rfl) ⟨Nat.le_refl _, Nat.le_add_right _ _⟩ ⟨_, rfl, (by omega), (by have hw := hI.uni u3 rfl u1; exact ⟨⟨⟨m, hw.1⟩, by omega, hw.2.1, hw.2.2⟩, cc.wk7 hI u3 rfl⟩)⟩
      · exact tz_throwNW (pc := 14) (text := "no such question of the index") th_X11_188_192 (by decide +kernel) rfl dX11_find_14 dX11_find_17 dX11_find_18 dX11_find_21 dX11_find_24 (Nat.le_of_ble_eq_true rfl) (Nat.le_of_ble_eq_true rfl) (Nat.le_of_ble_eq_true rfl) (Nat.le_of_ble_eq_true rfl) (Nat.le_of_ble_eq_true rfl) (Nat.le_of_ble_eq_true rfl) ⟨Nat.le_refl _, Nat.le_add_right _ _⟩ ⟨rfl, rfl⟩
  · refine tz_cVX (pc := 2) (c_need0 hl n _ _ (by omega) hh_2) vl_X11_216 dX11_find_2 o_0 rfl rfl (Nat.le_of_ble_eq_true rfl) ⟨(Nat.le_of_ble_eq_true rfl), (Nat.le_of_ble_eq_true rfl)⟩ rfl rfl (Nat.le_of_ble_eq_true rfl) (Nat.le_of_ble_eq_true rfl) (fun r9 n9 J9 hn1 hn2 hq9 => hq9.elim) (fun E9 n9 J9 hn1 hn2 hx9 => ?_)
    obtain ⟨rfl, rfl⟩ := hx9
    exact tz_out rfl (Nat.le_of_ble_eq_true rfl) (Nat.le_of_ble_eq_true rfl) ⟨by omega, by omega⟩ ⟨rfl, rfl⟩

set_option maxHeartbeats 4000000 in
set_option maxRecDepth 100000 in
theorem l_rule {l : Launch} {G : tb_G} (hl : l.stackTraces = false) (n : Nat) (J : zJ) (i : Int) (u : Int) (hr_i : -2147483648 ≤ i ∧ i < 2147483648) (hr_u : -2147483648 ≤ u ∧ u < 2147483648) (m : Int) (S : zJ) (pn : Int) (RR : Int → Int → Int) (hI : CI J m) (h9 : J 145 10 < 1000000000) (cc : CAL J S pn RR) (h21 : S 164 21 = 0) : tz_Ok l G M_X11_rule 6 1 6 [.ref 0, zi i, zi u] n J (zqi (fun z J' => CQ J' J ∧ CAL J' S pn RR)) (fun E J' => E = "java/util/NoSuchElementException" ∧ J = J') := by
  refine tz_Ok.of hl (by decide +kernel) rfl (tb_c1 rfl) (Nat.le_of_ble_eq_true rfl) ?_
  show tz_At l G M_X11_rule (tb_rm 6 1 6) none (tb_ZM G 1 6 (zQ n 1 (zqi (fun z J' => CQ J' J ∧ CAL J' S pn RR))) (zX n 1 (fun E J' => E = "java/util/NoSuchElementException" ∧ J = J'))) 0 0 n J 0 [some (.ref 0), some (zi i), some (zi u), none] []
  have hC := hI.1.1.1
  have hm := hI.1.1.2.1
  have hL := hI.1.1.2.2
  have hb := hC.told
  have h4 := hL.1.2.1
  refine tz_aload_n (pc := 0) dX11_rule_0 rfl rfl ?_
  refine tz_fR (pc := 1) dX11_rule_1 fl_X11_29 r_0_1 ?_
  refine tz_fR (pc := 4) dX11_rule_4 fl_X11_156 r_5_1 ?_
  refine tz_fR (pc := 7) dX11_rule_7 fl_X11_167 r_18_0 ?_
  refine tz_astore_n (pc := 10) (L2 := [_, _, _, _]) dX11_rule_10 rfl (by decide) rfl ?_
  refine tz_iload_n (pc := 11) dX11_rule_11 rfl rfl ?_
  refine tz_if_lt (pc := 12) (tgt := 31) dX11_rule_12 (by decide) (by omega) (fun h_12 => ?_) (fun h_12 => ?_)
  · exact tz_throwNW (pc := 31) (text := "no such rule or side") th_X11_188_192 (by decide +kernel) rfl dX11_rule_31 dX11_rule_34 dX11_rule_35 dX11_rule_38 dX11_rule_41 (Nat.le_of_ble_eq_true rfl) (Nat.le_of_ble_eq_true rfl) (Nat.le_of_ble_eq_true rfl) (Nat.le_of_ble_eq_true rfl) (Nat.le_of_ble_eq_true rfl) (Nat.le_of_ble_eq_true rfl) ⟨Nat.le_refl _, Nat.le_add_right _ _⟩ ⟨rfl, rfl⟩
  · refine tz_iload_n (pc := 15) dX11_rule_15 rfl rfl ?_
    refine tz_aload_n (pc := 16) dX11_rule_16 rfl rfl ?_
    refine tz_iconst (pc := 17) dX11_rule_17 ?_
    refine tz_aL (pc := 18) (z := 4) (v := (J 19 4)) dX11_rule_18 a_19 rfl (by decide) rfl (fun r_18 => ?_)
    refine tz_icmp_ge (pc := 19) (tgt := 31) dX11_rule_19 (by decide) (by omega) (by omega) (fun h_19 => ?_) (fun h_19 => ?_)
    · exact tz_throwNW (pc := 31) (text := "no such rule or side") th_X11_188_192 (by decide +kernel) rfl dX11_rule_31 dX11_rule_34 dX11_rule_35 dX11_rule_38 dX11_rule_41 (Nat.le_of_ble_eq_true rfl) (Nat.le_of_ble_eq_true rfl) (Nat.le_of_ble_eq_true rfl) (Nat.le_of_ble_eq_true rfl) (Nat.le_of_ble_eq_true rfl) (Nat.le_of_ble_eq_true rfl) ⟨Nat.le_refl _, Nat.le_add_right _ _⟩ ⟨rfl, rfl⟩
    · refine tz_iload_n (pc := 22) dX11_rule_22 rfl rfl ?_
      refine tz_if_lt (pc := 23) (tgt := 31) dX11_rule_23 (by decide) (by omega) (fun h_23 => ?_) (fun h_23 => ?_)
      · exact tz_throwNW (pc := 31) (text := "no such rule or side") th_X11_188_192 (by decide +kernel) rfl dX11_rule_31 dX11_rule_34 dX11_rule_35 dX11_rule_38 dX11_rule_41 (Nat.le_of_ble_eq_true rfl) (Nat.le_of_ble_eq_true rfl) (Nat.le_of_ble_eq_true rfl) (Nat.le_of_ble_eq_true rfl) (Nat.le_of_ble_eq_true rfl) (Nat.le_of_ble_eq_true rfl) ⟨Nat.le_refl _, Nat.le_add_right _ _⟩ ⟨rfl, rfl⟩
      · refine tz_iload_n (pc := 26) dX11_rule_26 rfl rfl ?_
        refine tz_iconst (pc := 27) dX11_rule_27 ?_
        refine tz_icmp_le (pc := 28) (tgt := 42) dX11_rule_28 (by decide) (by omega) (by decide) (fun h_28 => ?_) (fun h_28 => ?_)
        · refine tz_iload_n (pc := 42) dX11_rule_42 rfl rfl ?_
          refine tz_if_ne (pc := 43) (tgt := 55) dX11_rule_43 (by decide) (by omega) (fun h_43 => ?_) (fun h_43 => ?_)
          · refine tz_aload_n (pc := 55) dX11_rule_55 rfl rfl ?_
            refine tz_bipush (pc := 56) dX11_rule_56 (by decide) ?_
            refine tz_iload_n (pc := 58) dX11_rule_58 rfl rfl ?_
            refine tz_iadd (pc := 59) (v := 23 + i) dX11_rule_59 rfl ?_
            refine tz_aL (pc := 60) (z := (23 + i)) (v := (J 19 (23 + i))) dX11_rule_60 a_19 rfl (by omega) rfl (fun r_60 => ?_)
            exact tz_iret (pc := 61) (z := (J 19 (23 + i))) dX11_rule_61 rfl (Nat.le_of_ble_eq_true rfl) (Nat.le_of_ble_eq_true rfl) ⟨Nat.le_refl _, Nat.le_add_right _ _⟩ ⟨_, rfl, (by omega), ⟨CQ.rf hI, cc⟩⟩
          · refine tz_aload_n (pc := 46) dX11_rule_46 rfl rfl ?_
            refine tz_bipush (pc := 47) dX11_rule_47 (by decide) ?_
            refine tz_iload_n (pc := 49) dX11_rule_49 rfl rfl ?_
            refine tz_iadd (pc := 50) (v := 15 + i) dX11_rule_50 rfl ?_
            refine tz_aL (pc := 51) (z := (15 + i)) (v := (J 19 (15 + i))) dX11_rule_51 a_19 rfl (by omega) rfl (fun r_51 => ?_)
            refine tz_goto (pc := 52) (tgt := 61) dX11_rule_52 (by decide) ?_
            exact tz_iret (pc := 61) (z := (J 19 (15 + i))) dX11_rule_61 rfl (Nat.le_of_ble_eq_true rfl) (Nat.le_of_ble_eq_true rfl) ⟨Nat.le_refl _, Nat.le_add_right _ _⟩ ⟨_, rfl, (by omega), ⟨CQ.rf hI, cc⟩⟩
        · exact tz_throwNW (pc := 31) (text := "no such rule or side") th_X11_188_192 (by decide +kernel) rfl dX11_rule_31 dX11_rule_34 dX11_rule_35 dX11_rule_38 dX11_rule_41 (Nat.le_of_ble_eq_true rfl) (Nat.le_of_ble_eq_true rfl) (Nat.le_of_ble_eq_true rfl) (Nat.le_of_ble_eq_true rfl) (Nat.le_of_ble_eq_true rfl) (Nat.le_of_ble_eq_true rfl) ⟨Nat.le_refl _, Nat.le_add_right _ _⟩ ⟨rfl, rfl⟩

set_option maxHeartbeats 4000000 in
set_option maxRecDepth 100000 in
theorem l_entry {l : Launch} {G : tb_G} (hl : l.stackTraces = false) (n : Nat) (J : zJ) (i : Int) (hr_i : -2147483648 ≤ i ∧ i < 2147483648) (m : Int) (S : zJ) (pn : Int) (RR : Int → Int → Int) (hI : CI J m) (h9 : J 145 10 < 1000000000) (cc : CAL J S pn RR) (h21 : S 164 21 = 0) : tz_Ok l G M_X11_entry 6 1 6 [.ref 0, zi i] n J (zqi (fun z J' => CQ J' J ∧ CAL J' S pn RR)) (fun E J' => E = "java/util/NoSuchElementException" ∧ J = J') := by
  refine tz_Ok.of hl (by decide +kernel) rfl (tb_c1 rfl) (Nat.le_of_ble_eq_true rfl) ?_
  show tz_At l G M_X11_entry (tb_rm 6 1 6) none (tb_ZM G 1 6 (zQ n 1 (zqi (fun z J' => CQ J' J ∧ CAL J' S pn RR))) (zX n 1 (fun E J' => E = "java/util/NoSuchElementException" ∧ J = J'))) 0 0 n J 0 [some (.ref 0), some (zi i), none] []
  have hC := hI.1.1.1
  have hm := hI.1.1.2.1
  have hL := hI.1.1.2.2
  have hb := hC.told
  have h5 := hL.1.2.2.1
  refine tz_aload_n (pc := 0) dX11_entry_0 rfl rfl ?_
  refine tz_fR (pc := 1) dX11_entry_1 fl_X11_29 r_0_1 ?_
  refine tz_fR (pc := 4) dX11_entry_4 fl_X11_156 r_5_1 ?_
  refine tz_fR (pc := 7) dX11_entry_7 fl_X11_167 r_18_0 ?_
  refine tz_astore_n (pc := 10) (L2 := [_, _, _]) dX11_entry_10 rfl (by decide) rfl ?_
  refine tz_iload_n (pc := 11) dX11_entry_11 rfl rfl ?_
  refine tz_if_lt (pc := 12) (tgt := 22) dX11_entry_12 (by decide) (by omega) (fun h_12 => ?_) (fun h_12 => ?_)
  · exact tz_throwNW (pc := 22) (text := "no such entry") th_X11_188_192 (by decide +kernel) rfl dX11_entry_22 dX11_entry_25 dX11_entry_26 dX11_entry_29 dX11_entry_32 (Nat.le_of_ble_eq_true rfl) (Nat.le_of_ble_eq_true rfl) (Nat.le_of_ble_eq_true rfl) (Nat.le_of_ble_eq_true rfl) (Nat.le_of_ble_eq_true rfl) (Nat.le_of_ble_eq_true rfl) ⟨Nat.le_refl _, Nat.le_add_right _ _⟩ ⟨rfl, rfl⟩
  · refine tz_iload_n (pc := 15) dX11_entry_15 rfl rfl ?_
    refine tz_aload_n (pc := 16) dX11_entry_16 rfl rfl ?_
    refine tz_iconst (pc := 17) dX11_entry_17 ?_
    refine tz_aL (pc := 18) (z := 5) (v := (J 19 5)) dX11_entry_18 a_19 rfl (by decide) rfl (fun r_18 => ?_)
    refine tz_icmp_lt (pc := 19) (tgt := 33) dX11_entry_19 (by decide) (by omega) (by omega) (fun h_19 => ?_) (fun h_19 => ?_)
    · refine tz_aload_n (pc := 33) dX11_entry_33 rfl rfl ?_
      refine tz_bipush (pc := 34) dX11_entry_34 (by decide) ?_
      refine tz_iload_n (pc := 36) dX11_entry_36 rfl rfl ?_
      refine tz_iadd (pc := 37) (v := 31 + i) dX11_entry_37 rfl ?_
      refine tz_aL (pc := 38) (z := (31 + i)) (v := (J 19 (31 + i))) dX11_entry_38 a_19 rfl (by omega) rfl (fun r_38 => ?_)
      exact tz_iret (pc := 39) (z := (J 19 (31 + i))) dX11_entry_39 rfl (Nat.le_of_ble_eq_true rfl) (Nat.le_of_ble_eq_true rfl) ⟨Nat.le_refl _, Nat.le_add_right _ _⟩ ⟨_, rfl, (by omega), ⟨CQ.rf hI, cc⟩⟩
    · exact tz_throwNW (pc := 22) (text := "no such entry") th_X11_188_192 (by decide +kernel) rfl dX11_entry_22 dX11_entry_25 dX11_entry_26 dX11_entry_29 dX11_entry_32 (Nat.le_of_ble_eq_true rfl) (Nat.le_of_ble_eq_true rfl) (Nat.le_of_ble_eq_true rfl) (Nat.le_of_ble_eq_true rfl) (Nat.le_of_ble_eq_true rfl) (Nat.le_of_ble_eq_true rfl) ⟨Nat.le_refl _, Nat.le_add_right _ _⟩ ⟨rfl, rfl⟩

set_option maxHeartbeats 4000000 in
set_option maxRecDepth 100000 in
theorem l_memo {l : Launch} {G : tb_G} (hl : l.stackTraces = false) (n : Nat) (J : zJ) (i : Int) (u : Int) (hr_i : -2147483648 ≤ i ∧ i < 2147483648) (hr_u : -2147483648 ≤ u ∧ u < 2147483648) (m : Int) (S : zJ) (pn : Int) (RR : Int → Int → Int) (hI : CI J m) (h9 : J 145 10 < 1000000000) (cc : CAL J S pn RR) (h21 : S 164 21 = 0) : tz_Ok l G M_X11_memo 6 1 6 [.ref 0, zi i, zi u] n J (zqi (fun z J' => CQ J' J ∧ CAL J' S pn RR)) (fun E J' => E = "java/util/NoSuchElementException" ∧ J = J') := by
  refine tz_Ok.of hl (by decide +kernel) rfl (tb_c1 rfl) (Nat.le_of_ble_eq_true rfl) ?_
  show tz_At l G M_X11_memo (tb_rm 6 1 6) none (tb_ZM G 1 6 (zQ n 1 (zqi (fun z J' => CQ J' J ∧ CAL J' S pn RR))) (zX n 1 (fun E J' => E = "java/util/NoSuchElementException" ∧ J = J'))) 0 0 n J 0 [some (.ref 0), some (zi i), some (zi u), none] []
  have hC := hI.1.1.1
  have hm := hI.1.1.2.1
  have hL := hI.1.1.2.2
  have hb := hC.told
  have h6 := hL.1.2.2.2
  refine tz_aload_n (pc := 0) dX11_memo_0 rfl rfl ?_
  refine tz_fR (pc := 1) dX11_memo_1 fl_X11_29 r_0_1 ?_
  refine tz_fR (pc := 4) dX11_memo_4 fl_X11_156 r_5_1 ?_
  refine tz_fR (pc := 7) dX11_memo_7 fl_X11_167 r_18_0 ?_
  refine tz_astore_n (pc := 10) (L2 := [_, _, _, _]) dX11_memo_10 rfl (by decide) rfl ?_
  refine tz_iload_n (pc := 11) dX11_memo_11 rfl rfl ?_
  refine tz_if_lt (pc := 12) (tgt := 32) dX11_memo_12 (by decide) (by omega) (fun h_12 => ?_) (fun h_12 => ?_)
  · exact tz_throwNW (pc := 32) (text := "no such memo or side") th_X11_188_192 (by decide +kernel) rfl dX11_memo_32 dX11_memo_35 dX11_memo_36 dX11_memo_39 dX11_memo_42 (Nat.le_of_ble_eq_true rfl) (Nat.le_of_ble_eq_true rfl) (Nat.le_of_ble_eq_true rfl) (Nat.le_of_ble_eq_true rfl) (Nat.le_of_ble_eq_true rfl) (Nat.le_of_ble_eq_true rfl) ⟨Nat.le_refl _, Nat.le_add_right _ _⟩ ⟨rfl, rfl⟩
  · refine tz_iload_n (pc := 15) dX11_memo_15 rfl rfl ?_
    refine tz_aload_n (pc := 16) dX11_memo_16 rfl rfl ?_
    refine tz_bipush (pc := 17) dX11_memo_17 (by decide) ?_
    refine tz_aL (pc := 19) (z := 6) (v := (J 19 6)) dX11_memo_19 a_19 rfl (by decide) rfl (fun r_19 => ?_)
    refine tz_icmp_ge (pc := 20) (tgt := 32) dX11_memo_20 (by decide) (by omega) (by omega) (fun h_20 => ?_) (fun h_20 => ?_)
    · exact tz_throwNW (pc := 32) (text := "no such memo or side") th_X11_188_192 (by decide +kernel) rfl dX11_memo_32 dX11_memo_35 dX11_memo_36 dX11_memo_39 dX11_memo_42 (Nat.le_of_ble_eq_true rfl) (Nat.le_of_ble_eq_true rfl) (Nat.le_of_ble_eq_true rfl) (Nat.le_of_ble_eq_true rfl) (Nat.le_of_ble_eq_true rfl) (Nat.le_of_ble_eq_true rfl) ⟨Nat.le_refl _, Nat.le_add_right _ _⟩ ⟨rfl, rfl⟩
    · refine tz_iload_n (pc := 23) dX11_memo_23 rfl rfl ?_
      refine tz_if_lt (pc := 24) (tgt := 32) dX11_memo_24 (by decide) (by omega) (fun h_24 => ?_) (fun h_24 => ?_)
      · exact tz_throwNW (pc := 32) (text := "no such memo or side") th_X11_188_192 (by decide +kernel) rfl dX11_memo_32 dX11_memo_35 dX11_memo_36 dX11_memo_39 dX11_memo_42 (Nat.le_of_ble_eq_true rfl) (Nat.le_of_ble_eq_true rfl) (Nat.le_of_ble_eq_true rfl) (Nat.le_of_ble_eq_true rfl) (Nat.le_of_ble_eq_true rfl) (Nat.le_of_ble_eq_true rfl) ⟨Nat.le_refl _, Nat.le_add_right _ _⟩ ⟨rfl, rfl⟩
      · refine tz_iload_n (pc := 27) dX11_memo_27 rfl rfl ?_
        refine tz_iconst (pc := 28) dX11_memo_28 ?_
        refine tz_icmp_le (pc := 29) (tgt := 43) dX11_memo_29 (by decide) (by omega) (by decide) (fun h_29 => ?_) (fun h_29 => ?_)
        · refine tz_iload_n (pc := 43) dX11_memo_43 rfl rfl ?_
          refine tz_if_ne (pc := 44) (tgt := 56) dX11_memo_44 (by decide) (by omega) (fun h_44 => ?_) (fun h_44 => ?_)
          · refine tz_aload_n (pc := 56) dX11_memo_56 rfl rfl ?_
            refine tz_bipush (pc := 57) dX11_memo_57 (by decide) ?_
            refine tz_iload_n (pc := 59) dX11_memo_59 rfl rfl ?_
            refine tz_iadd (pc := 60) (v := 52 + i) dX11_memo_60 rfl ?_
            refine tz_aL (pc := 61) (z := (52 + i)) (v := (J 19 (52 + i))) dX11_memo_61 a_19 rfl (by omega) rfl (fun r_61 => ?_)
            exact tz_iret (pc := 62) (z := (J 19 (52 + i))) dX11_memo_62 rfl (Nat.le_of_ble_eq_true rfl) (Nat.le_of_ble_eq_true rfl) ⟨Nat.le_refl _, Nat.le_add_right _ _⟩ ⟨_, rfl, (by omega), ⟨CQ.rf hI, cc⟩⟩
          · refine tz_aload_n (pc := 47) dX11_memo_47 rfl rfl ?_
            refine tz_bipush (pc := 48) dX11_memo_48 (by decide) ?_
            refine tz_iload_n (pc := 50) dX11_memo_50 rfl rfl ?_
            refine tz_iadd (pc := 51) (v := 43 + i) dX11_memo_51 rfl ?_
            refine tz_aL (pc := 52) (z := (43 + i)) (v := (J 19 (43 + i))) dX11_memo_52 a_19 rfl (by omega) rfl (fun r_52 => ?_)
            refine tz_goto (pc := 53) (tgt := 62) dX11_memo_53 (by decide) ?_
            exact tz_iret (pc := 62) (z := (J 19 (43 + i))) dX11_memo_62 rfl (Nat.le_of_ble_eq_true rfl) (Nat.le_of_ble_eq_true rfl) ⟨Nat.le_refl _, Nat.le_add_right _ _⟩ ⟨_, rfl, (by omega), ⟨CQ.rf hI, cc⟩⟩
        · exact tz_throwNW (pc := 32) (text := "no such memo or side") th_X11_188_192 (by decide +kernel) rfl dX11_memo_32 dX11_memo_35 dX11_memo_36 dX11_memo_39 dX11_memo_42 (Nat.le_of_ble_eq_true rfl) (Nat.le_of_ble_eq_true rfl) (Nat.le_of_ble_eq_true rfl) (Nat.le_of_ble_eq_true rfl) (Nat.le_of_ble_eq_true rfl) (Nat.le_of_ble_eq_true rfl) ⟨Nat.le_refl _, Nat.le_add_right _ _⟩ ⟨rfl, rfl⟩

set_option maxHeartbeats 4000000 in
set_option maxRecDepth 100000 in
theorem l_bound {l : Launch} {G : tb_G} (hl : l.stackTraces = false) (n : Nat) (J : zJ) (x : Int) (hr_x : -2147483648 ≤ x ∧ x < 2147483648) (m : Int) (S : zJ) (pn : Int) (RR : Int → Int → Int) (hI : CI J m) (h9 : J 145 10 < 1000000000) (cc : CAL J S pn RR) (h21 : S 164 21 = 0) : tz_Ok l G M_X11_bound 6 1 6 [.ref 0, zi x] n J (zqi (fun z J' => CQ J' J ∧ CAL J' S pn RR)) (fun E J' => E = "java/util/NoSuchElementException" ∧ J = J') := by
  refine tz_Ok.of hl (by decide +kernel) rfl (tb_c1 rfl) (Nat.le_of_ble_eq_true rfl) ?_
  show tz_At l G M_X11_bound (tb_rm 6 1 6) none (tb_ZM G 1 6 (zQ n 1 (zqi (fun z J' => CQ J' J ∧ CAL J' S pn RR))) (zX n 1 (fun E J' => E = "java/util/NoSuchElementException" ∧ J = J'))) 0 0 n J 0 [some (.ref 0), some (zi x)] []
  have hC := hI.1.1.1
  have hm := hI.1.1.2.1
  have hL := hI.1.1.2.2
  have hb := hC.told
  refine tz_iload_n (pc := 0) dX11_bound_0 rfl rfl ?_
  refine tz_cS (pc := 1) (c_isVarN hl n _ _ (by omega)) sl_X11_279 dX11_bound_1 rfl rfl (Nat.le_of_ble_eq_true rfl) ⟨(Nat.le_of_ble_eq_true rfl), (Nat.le_of_ble_eq_true rfl)⟩ rfl rfl (Nat.le_of_ble_eq_true rfl) (Nat.le_of_ble_eq_true rfl) (fun r9 J_1 hq9 => ?_)
  obtain ⟨z_1, rfl, hz_1, rfl, rfl⟩ := hq9
  by_cases hw_4 : 0 ≤ x ∧ x < 8
  · rw [show (if 0 ≤ x ∧ x < 8 then 1 else 0 : Int) = 1 from if_pos hw_4]
    refine tz_if_neT (pc := 4) (tgt := 18) (by decide) dX11_bound_4 (by decide) (by decide) ?_
    refine tz_aload_n (pc := 18) dX11_bound_18 rfl rfl ?_
    refine tz_fR (pc := 19) dX11_bound_19 fl_X11_29 r_0_1 ?_
    refine tz_fR (pc := 22) dX11_bound_22 fl_X11_156 r_5_1 ?_
    refine tz_fR (pc := 25) dX11_bound_25 fl_X11_167 r_18_0 ?_
    refine tz_bipush (pc := 28) dX11_bound_28 (by decide) ?_
    refine tz_iload_n (pc := 30) dX11_bound_30 rfl rfl ?_
    refine tz_iadd (pc := 31) (v := 7 + x) dX11_bound_31 rfl ?_
    refine tz_aL (pc := 32) (z := (7 + x)) (v := (J 19 (7 + x))) dX11_bound_32 a_19 rfl (by omega) rfl (fun r_32 => ?_)
    exact tz_iret (pc := 33) (z := (J 19 (7 + x))) dX11_bound_33 rfl (Nat.le_of_ble_eq_true rfl) (Nat.le_of_ble_eq_true rfl) ⟨Nat.le_refl _, Nat.le_add_right _ _⟩ ⟨_, rfl, (by omega), ⟨CQ.rf hI, cc⟩⟩
  · rw [show (if 0 ≤ x ∧ x < 8 then 1 else 0 : Int) = 0 from if_neg hw_4]
    refine tz_if_neF (pc := 4) (tgt := 18) (by decide) dX11_bound_4 (by decide) (by decide) ?_
    exact tz_throwNW (pc := 7) (text := "no such variable") th_X11_188_192 (by decide +kernel) rfl dX11_bound_7 dX11_bound_10 dX11_bound_11 dX11_bound_14 dX11_bound_17 (Nat.le_of_ble_eq_true rfl) (Nat.le_of_ble_eq_true rfl) (Nat.le_of_ble_eq_true rfl) (Nat.le_of_ble_eq_true rfl) (Nat.le_of_ble_eq_true rfl) (Nat.le_of_ble_eq_true rfl) ⟨Nat.le_refl _, Nat.le_add_right _ _⟩ ⟨rfl, rfl⟩

set_option maxHeartbeats 4000000 in
set_option maxRecDepth 100000 in
theorem l_fault {l : Launch} {G : tb_G} (hl : l.stackTraces = false) (n : Nat) (J : zJ)   (m : Int) (S : zJ) (pn : Int) (RR : Int → Int → Int) (hI : CI J m) (h9 : J 145 10 < 1000000000) (cc : CAL J S pn RR) (h21 : S 164 21 = 0) : tz_Ok l G M_X11_fault 0 0 0 [.ref 0] n J (zqi (fun z J' => CQ J' J ∧ CAL J' S pn RR ∧ J 0 14 = z)) zN := by
  refine tz_Ok.of hl (by decide +kernel) rfl (tb_c1 rfl) (Nat.le_of_ble_eq_true rfl) ?_
  show tz_At l G M_X11_fault (tb_rm 0 0 0) none (tb_ZM G 0 0 (zQ n 0 (zqi (fun z J' => CQ J' J ∧ CAL J' S pn RR ∧ J 0 14 = z))) (zX n 0 zN)) 0 0 n J 0 [some (.ref 0)] []
  refine tz_aload_n (pc := 0) dX11_fault_0 rfl rfl ?_
  refine tz_fI (pc := 1) (kz := 14) (v := (J 0 14)) dX11_fault_1 fl_X11_111 i_0_14 rfl rfl (fun r_1 => ?_)
  exact tz_iret (pc := 4) (z := (J 0 14)) dX11_fault_4 rfl (Nat.le_of_ble_eq_true rfl) (Nat.le_of_ble_eq_true rfl) ⟨Nat.le_refl _, Nat.le_add_right _ _⟩ ⟨_, rfl, (by omega), ⟨CQ.rf hI, cc, rfl⟩⟩

