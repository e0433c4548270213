/-! ===== normalOf of the class: a turn ===== -/
/-- put aside -/
def HID (P : Prop) : Prop := P
theorem HID.o {P : Prop} (h : HID P) : P := h
set_option maxHeartbeats 4000000 in
set_option maxRecDepth 100000 in
theorem x_wentOn {l : Launch} {G : tb_G} (hl : l.stackTraces = false) (n : Nat) (J : zJ) (f : Int) (hr_f : -2147483648 ≤ f ∧ f < 2147483648) (m : Int) (S : zJ) (σ : Int) (F : NFr) (K : List NFr) (C : CT J m) (hm : J 6 12 = m) (hL : LI (J 19) m) (hF : FR J m) (hf : 0 ≤ f ∧ f < J 158 7) (hfk : f = (K.length : Int)) (N : NSH m J S σ (F :: K)) (h4 : F.2.1 < 4) : tz_Ok l G M_X6_wentOn 10 0 0 [.ref 158, zi f] n J (zqi (fun z J' => ∃ m', WR J' J m m' ∧ (-3 ≤ z ∧ z < m') ∧ NCG m' J' z (nST ((S, σ), F :: K, -1)))) zN := by
  refine tz_Ok.of hl (by decide +kernel) rfl (tb_c1 rfl) (Nat.le_of_ble_eq_true rfl) ?_
  show tz_At l G M_X6_wentOn (tb_rm 10 0 0) none (tb_ZM G 0 0 (zQ n 0 (zqi (fun z J' => ∃ m', WR J' J m m' ∧ (-3 ≤ z ∧ z < m') ∧ NCG m' J' z (nST ((S, σ), F :: K, -1))))) (zX n 0 zN)) 0 0 n J 0 [some (.ref 158), some (zi f), none, none, none, none] []
  have hb := C.told
  have h7 := hF.1
  have ha := hF.2 f hf.1 hf.2
  have ha1 := ha.1
  have ha2 := ha.2.1
  have hr := C.ar ha.1.1 ha.1.2
  obtain ⟨fa, fb, fc, fd, fx⟩ := id N.2.2.2.1
  rw [← hfk] at fb fc fd fx
  have fd9 : HID _ := fd h4
  clear fd
  have hσ := N.2.1
  have d12 := C.nums fa.1 fa.2
  have e12 : J 12 (J 159 f) = J 12 F.1 := by rw [fb]
  have h158 : J 158 7 = f + 1 := by rw [N.2.2.1, nfk_l, hfk]
  refine tz_aload_n (pc := 0) dX6_wentOn_0 rfl rfl ?_
  refine tz_fR (pc := 1) dX6_wentOn_1 fl_X6_11 r_158_4 ?_
  refine tz_iload_n (pc := 4) dX6_wentOn_4 rfl rfl ?_
  refine tz_aL (pc := 5) (z := f) (v := (J 159 f)) dX6_wentOn_5 a_159 rfl (by omega) rfl (fun r_5 => ?_)
  refine tz_istore_n (pc := 6) (L2 := [_, _, _, _, _, _]) dX6_wentOn_6 rfl (by decide) rfl ?_
  refine tz_aload_n (pc := 7) dX6_wentOn_7 rfl rfl ?_
  refine tz_fR (pc := 8) dX6_wentOn_8 fl_X6_15 r_158_5 ?_
  refine tz_iload_n (pc := 11) dX6_wentOn_11 rfl rfl ?_
  refine tz_aL (pc := 12) (z := f) (v := (J 160 f)) dX6_wentOn_12 a_160 rfl (by omega) rfl (fun r_12 => ?_)
  refine tz_aload_n (pc := 13) dX6_wentOn_13 rfl rfl ?_
  refine tz_fR (pc := 14) dX6_wentOn_14 fl_X6_38 r_158_1 ?_
  refine tz_fR (pc := 17) dX6_wentOn_17 fl_X6_74 r_6_2 ?_
  refine tz_iload_n (pc := 20) dX6_wentOn_20 rfl rfl ?_
  refine tz_aL (pc := 21) (z := (J 159 f)) (v := (J 8 (J 159 f))) dX6_wentOn_21 a_8 rfl (by omega) rfl (fun r_21 => ?_)
  refine tz_icmp_ge (pc := 22) (tgt := 44) dX6_wentOn_22 (by decide) (by omega) (by omega) (fun h_22 => ?_) (fun h_22 => ?_)
  · refine tz_iload_n (pc := 44) dX6_wentOn_44 rfl rfl ?_
    refine tz_iconst (pc := 45) dX6_wentOn_45 ?_
    refine tz_imul (pc := 46) (v := f * 3) dX6_wentOn_46 rfl ?_
    refine tz_istore_n (pc := 47) (L2 := [_, _, _, _, _, _]) dX6_wentOn_47 rfl (by decide) rfl ?_
    refine tz_aload_n (pc := 48) dX6_wentOn_48 rfl rfl ?_
    refine tz_fR (pc := 49) dX6_wentOn_49 fl_X6_38 r_158_1 ?_
    refine tz_aload_n (pc := 52) dX6_wentOn_52 rfl rfl ?_
    refine tz_fR (pc := 53) dX6_wentOn_53 fl_X6_38 r_158_1 ?_
    refine tz_fR (pc := 56) dX6_wentOn_56 fl_X6_80 r_6_1 ?_
    refine tz_iload_n (pc := 59) dX6_wentOn_59 rfl rfl ?_
    refine tz_aL (pc := 60) (z := (J 159 f)) (v := (J 7 (J 159 f))) dX6_wentOn_60 a_7 rfl (by omega) rfl (fun r_60 => ?_)
    refine tz_aload_n (pc := 61) dX6_wentOn_61 rfl rfl ?_
    refine tz_fR (pc := 62) dX6_wentOn_62 fl_X6_18 r_158_6 ?_
    refine tz_iload_n (pc := 65) dX6_wentOn_65 rfl rfl ?_
    refine tz_aL (pc := 66) (z := (f * 3)) (v := (J 161 (f * 3))) dX6_wentOn_66 a_161 rfl (by omega) rfl (fun r_66 => ?_)
    refine tz_aload_n (pc := 67) dX6_wentOn_67 rfl rfl ?_
    refine tz_fR (pc := 68) dX6_wentOn_68 fl_X6_18 r_158_6 ?_
    refine tz_iload_n (pc := 71) dX6_wentOn_71 rfl rfl ?_
    refine tz_iconst (pc := 72) dX6_wentOn_72 ?_
    refine tz_iadd (pc := 73) (v := (f * 3) + 1) dX6_wentOn_73 rfl ?_
    refine tz_aL (pc := 74) (z := ((f * 3) + 1)) (v := (J 161 ((f * 3) + 1))) dX6_wentOn_74 a_161 rfl (by omega) rfl (fun r_74 => ?_)
    refine tz_aload_n (pc := 75) dX6_wentOn_75 rfl rfl ?_
    refine tz_fR (pc := 76) dX6_wentOn_76 fl_X6_18 r_158_6 ?_
    refine tz_iload_n (pc := 79) dX6_wentOn_79 rfl rfl ?_
    refine tz_iconst (pc := 80) dX6_wentOn_80 ?_
    refine tz_iadd (pc := 81) (v := (f * 3) + 2) dX6_wentOn_81 rfl ?_
    refine tz_aL (pc := 82) (z := ((f * 3) + 2)) (v := (J 161 ((f * 3) + 2))) dX6_wentOn_82 a_161 rfl (by omega) rfl (fun r_82 => ?_)
    have hA : J 8 (J 159 f) = arh (J 3) (J 7 (J 159 f)) := (C.2.1 _ ha.1.1 ha.1.2).1.1
    have p0 : HID _ := ha.2.2 0
    have p1 : HID _ := ha.2.2 1
    have p2 : HID _ := ha.2.2 2
    rw [Int.add_zero] at p0
    refine tz_cV (pc := 83) (c_made hl n _ _ _ _ _ (by omega) (by omega) (by omega) (by omega) m C hm (by omega) ⟨by have := p0.o; omega, by have := p1.o; omega, by have := p2.o; omega⟩) vl_X6_83 dX6_wentOn_83 o_6 rfl rfl (Nat.le_of_ble_eq_true rfl) ⟨(Nat.le_of_ble_eq_true rfl), (Nat.le_of_ble_eq_true rfl)⟩ rfl rfl (Nat.le_of_ble_eq_true rfl) (Nat.le_of_ble_eq_true rfl) (fun r9 J_83 hq9 => ?_)
    obtain ⟨z_83, rfl, hz_83, p_83⟩ := hq9
    obtain ⟨m9, g9, h9⟩ := GR.made p_83 (by omega)
    have q9 := WR.made (WR.rf C hm hL hF) g9
    have c9 := g9.1
    have t9 := q9.1.2.1.told
    have md9 := st_md N C hm (by rw [← hfk]; omega)
    rw [← hfk] at md9
    have a9 : HID _ := N.1.1.made N.1.2.2.1 C hm (by omega) (x := F.2.2.1) (y := F.2.2.2.1) (w := F.2.2.2.2) ⟨fun q => (fd9.o.1 (by omega)).1, fun q => (fd9.o.2.1 (by omega)).1, fun q => (fd9.o.2.2 (by omega)).1⟩ ⟨fun q => (by have u := fd9.o.1 (by omega); have v := p0.o (by decide) (by omega) (by omega); omega), fun q => (by have u := fd9.o.2.1 (by omega); have v := p1.o (by decide) (by omega) (by omega); omega), fun q => (by have u := fd9.o.2.2 (by omega); have v := p2.o (by decide) (by omega) (by omega); omega)⟩ p_83
    clear p_83 p0 p1 p2 fd9
    have t5 : ∀ k, ¬ k = 0 → (tmO S (J 7 (J 159 f)) F.2.2.1 F.2.2.2.1 F.2.2.2.2).1 165 k = S 165 k := fun k hk => tmO_5 hk
    generalize tmO S (J 7 (J 159 f)) F.2.2.1 F.2.2.2.1 F.2.2.2.2 = M9 at a9 md9 t5
    refine tz_istore (pc := 86) (L2 := [_, _, _, _, _, _]) dX6_wentOn_86 (by decide) rfl ?_
    refine tz_iload (pc := 88) dX6_wentOn_88 rfl ?_
    refine tz_if_ge (pc := 90) (tgt := 96) dX6_wentOn_90 (by decide) (by omega) (fun h_90 => ?_) (fun h_90 => ?_)
    · refine tz_aload_n (pc := 96) dX6_wentOn_96 rfl rfl ?_
      refine tz_fR (pc := 97) dX6_wentOn_97 fl_X6_28 r_158_0 ?_
      refine tz_fR (pc := 100) dX6_wentOn_100 fl_X6_65 r_5_1 ?_
      refine tz_aload_n (pc := 103) dX6_wentOn_103 rfl rfl ?_
      refine tz_fR (pc := 104) dX6_wentOn_104 fl_X6_39 r_158_2 ?_
      refine tz_iload (pc := 107) dX6_wentOn_107 rfl ?_
      have b9 := (a9.o.resolve_left (fun q => by have := q.1.1; omega)).2
      have N9 := N.made g9 b9.2.1 t5 b9.1 hL
      refine tz_cS (pc := 109) (x_firstRule hl n _ _ (by omega) m9 M9.1 q9.1.2.1 q9.1.2.2.1 q9.2.1 (by omega) N9.1.1 N9.1.2.1) sl_X6_87 dX6_wentOn_109 rfl rfl (Nat.le_of_ble_eq_true rfl) ⟨(Nat.le_of_ble_eq_true rfl), (Nat.le_of_ble_eq_true rfl)⟩ rfl rfl (Nat.le_of_ble_eq_true rfl) (Nat.le_of_ble_eq_true rfl) (fun r9 J_109 hq9 => ?_)
      obtain ⟨z_109, rfl, hz_109, a_1, a_2, x_109⟩ := hq9
      have A_2 : HID _ := a_2
      clear a_2
      have q8 := q9.led (a_1.mono (fun c hc => by simp [zbut] at hc ⊢; omega)) (by rw [a_1 19 rfl]; exact q9.2.1)
      have x158 : J_109 158 = J 158 := (a_1 158 rfl).trans (g9.2.2.2.2 158 rfl)
      have x159 : J_109 159 = J 159 := (a_1 159 rfl).trans (g9.2.2.2.2 159 rfl)
      have x160 : J_109 160 = J 160 := (a_1 160 rfl).trans (g9.2.2.2.2 160 rfl)
      have x8 : J_109 8 (J 159 f) = J 8 (J 159 f) := (congrFun (a_1 8 rfl) _).trans (g9.2.2.2.1.1 _ ha.1.1 ha.1.2).2.1
      have N8 := N9.c140 a_1
      have n9 : HID _ := x_109.n (N9.1.2.1.b q9.2.1).1.1
      rw [b9.2.2] at n9
      have s158 : J_109 158 8 = 100 - σ := N8.2.1.1
      refine tz_istore (pc := 112) (L2 := [_, _, _, _, _, _]) dX6_wentOn_112 (by decide) rfl ?_
      refine tz_iload (pc := 114) dX6_wentOn_114 rfl ?_
      refine tz_iconst (pc := 116) dX6_wentOn_116 ?_
      refine tz_icmp_ne (pc := 117) (tgt := 128) dX6_wentOn_117 (by decide) (by omega) (by decide) (fun h_117 => ?_) (fun h_117 => ?_)
      · refine tz_aload_n (pc := 128) dX6_wentOn_128 rfl rfl ?_
        refine tz_fI (pc := 129) (kz := 8) (v := (J 158 8)) dX6_wentOn_129 fl_X6_25 i_158_8 rfl (Eq.trans (congrFun (a_1 158 rfl) 8) (Eq.trans (congrFun (g9.2.2.2.2 158 rfl) 8) rfl)) (fun r_129 => ?_)
        refine tz_if_gt (pc := 132) (tgt := 138) dX6_wentOn_132 (by decide) (by omega) (fun h_132 => ?_) (fun h_132 => ?_)
        · refine tz_aload_n (pc := 138) dX6_wentOn_138 rfl rfl ?_
          refine tz_iload_n (pc := 139) dX6_wentOn_139 rfl rfl ?_
          refine tz_cV (pc := 140) (x_countStep hl n _ _ (by omega) m9 q8.1.2.1 q8.1.2.2.1 q8.2.1 q8.2.2 (by rw [x158]; exact hf) (by rw [x159, x160, x8]; omega) (by rw [x158]; omega)) vl_X6_96 dX6_wentOn_140 o_158 rfl rfl (Nat.le_of_ble_eq_true rfl) ⟨(Nat.le_of_ble_eq_true rfl), (Nat.le_of_ble_eq_true rfl)⟩ rfl rfl (Nat.le_of_ble_eq_true rfl) (Nat.le_of_ble_eq_true rfl) (fun r9 J_140 hq9 => ?_)
          obtain ⟨rfl, g_140, f_140, k_140, e_140⟩ := hq9
          have q7 := q8.tr g_140
          have r7 := A_2.o.resolve_left (by omega)
          have s7 := (q9.2.1.2.2.1 z_109 r7.1.1 r7.1.2).2
          have e19 := g9.2.2.2.2 19 rfl
          rw [e19] at s7 r7
          have h4r := hL.1.2.1
          have fr9 := n9.o.resolve_left (fun q => by have := q.1; omega)
          have N7 := N8.step q8.2.1 (by omega)
          rw [← hfk, e_140] at N7
          have et9 : J 19 (23 + z_109) = M9.1 165 (10 + 2 * z_109 + 1) := by have q := (N8.1.2.1.2.1.2 z_109 fr9.1.1 fr9.1.2).2; rw [a_1 19 rfl, e19] at q; exact q
          have sg9 : sgA (J_140 140) (omt M9.1 (M9.1 165 (10 + 2 * z_109)) M9.2).2 := by rw [f_140 140 rfl]; exact fr9.2.2
          refine tz_aload_n (pc := 143) dX6_wentOn_143 rfl rfl ?_
          refine tz_aload_n (pc := 144) dX6_wentOn_144 rfl rfl ?_
          refine tz_fR (pc := 145) dX6_wentOn_145 fl_X6_43 r_158_3 ?_
          refine tz_aload_n (pc := 148) dX6_wentOn_148 rfl rfl ?_
          refine tz_fR (pc := 149) dX6_wentOn_149 fl_X6_28 r_158_0 ?_
          refine tz_fR (pc := 152) dX6_wentOn_152 fl_X6_65 r_5_1 ?_
          refine tz_fR (pc := 155) dX6_wentOn_155 fl_X6_100 r_18_0 ?_
          refine tz_bipush (pc := 158) dX6_wentOn_158 (by decide) ?_
          refine tz_iload (pc := 160) dX6_wentOn_160 rfl ?_
          refine tz_iadd (pc := 162) (v := 23 + z_109) dX6_wentOn_162 rfl ?_
          refine tz_aL (pc := 163) (z := (23 + z_109)) (v := (J 19 (23 + z_109))) dX6_wentOn_163 a_19 rfl (by omega) (Eq.trans (k_140 (23 + z_109) (by omega)) (Eq.trans (congrFun (a_1 19 rfl) (23 + z_109)) (Eq.trans (congrFun (g9.2.2.2.2 19 rfl) (23 + z_109)) rfl))) (fun r_163 => ?_)
          refine tz_aload_n (pc := 164) dX6_wentOn_164 rfl rfl ?_
          refine tz_fR (pc := 165) dX6_wentOn_165 fl_X6_39 r_158_2 ?_
          refine tz_fR (pc := 168) dX6_wentOn_168 fl_X6_103 r_139_1 ?_
          refine tz_iconst (pc := 171) dX6_wentOn_171 ?_
          refine tz_cV (pc := 172) (x_applied140 hl n _ _ (by omega) m9 q7.1.2.1 q7.1.2.2.1 (by omega) (gOK.r (by rw [f_140 140 rfl]; exact r7.2))) vl_X6_108 dX6_wentOn_172 o_141 rfl rfl (Nat.le_of_ble_eq_true rfl) ⟨(Nat.le_of_ble_eq_true rfl), (Nat.le_of_ble_eq_true rfl)⟩ rfl rfl (Nat.le_of_ble_eq_true rfl) (Nat.le_of_ble_eq_true rfl) (fun r9 J_172 hq9 => ?_)
          obtain ⟨z_172, rfl, hz_172, m7, g7, h7x, x7⟩ := hq9
          have q6 := q7.made g7
          have b7 := g7.1
          have t7 := q6.1.2.1.told
          have o7 := x7_o x7 b9.1 N7.1.1 sg9 et9
          have h140 : J_172 158 7 = f + 1 := by rw [g7.2.2.2.2 158 rfl, N7.2.2.1, nfk_l, hfk]
          refine tz_cV (pc := 175) (x_opened hl n _ _ (by omega) m7 (nRT M9.1 M9.2 z_109).1 (σ + 1) ((F.1, 4, F.2.2) :: K) q6.1.2.1 q6.1.2.2.1 q6.2.1 q6.2.2 (by omega) (by omega)) vl_X6_47 dX6_wentOn_175 o_158 rfl rfl (Nat.le_of_ble_eq_true rfl) ⟨(Nat.le_of_ble_eq_true rfl), (Nat.le_of_ble_eq_true rfl)⟩ rfl rfl (Nat.le_of_ble_eq_true rfl) (Nat.le_of_ble_eq_true rfl) (fun r9 J_175 hq9 => ?_)
          obtain ⟨z_175, rfl, hz_175, g_175, h_175, x_175, y_175⟩ := hq9
          exact tz_iret (pc := 178) (z := z_175) dX6_wentOn_178 rfl (Nat.le_of_ble_eq_true rfl) (Nat.le_of_ble_eq_true rfl) ⟨Nat.le_refl _, Nat.le_add_right _ _⟩ ⟨_, rfl, (by omega), ⟨m7, q6.tr g_175, h_175, by rw [md9]; exact ncg_r (k := z_109) (t := z_172) (M := M9) (J4 := J_140) (J7 := J_172) b9.1 N7 g_140.2.1 ⟨fr9.2.1, fr9.1.2⟩ (by omega) (by omega) g7 o7 (fun q => (q6.1.2.1.nums (t := z_172) q (by omega)).2.2.2) x_175 y_175⟩⟩
        · refine tz_bipush (pc := 135) dX6_wentOn_135 (by decide) ?_
          exact tz_iret (pc := 137) (z := (-2)) dX6_wentOn_137 rfl (Nat.le_of_ble_eq_true rfl) (Nat.le_of_ble_eq_true rfl) ⟨Nat.le_refl _, Nat.le_add_right _ _⟩ ⟨_, rfl, (by decide), ⟨m9, q8, by have := c9; omega, by rw [md9, nmd_u b9.1 (n9.o.resolve_left (fun q => by have := q.1; omega)).2.1 (n9.o.resolve_left (fun q => by have := q.1; omega)).1.2, nRU_t (by omega)]; exact Or.inr ⟨rfl, Or.inr ⟨rfl, rfl⟩⟩⟩⟩
      · refine tz_aload_n (pc := 120) dX6_wentOn_120 rfl rfl ?_
        refine tz_iload (pc := 121) dX6_wentOn_121 rfl ?_
        refine tz_iload_n (pc := 123) dX6_wentOn_123 rfl rfl ?_
        refine tz_cV (pc := 124) (x_closedWith hl n _ _ _ (by omega) (by omega) m9 q8.1.2.1 q8.1.2.2.1 q8.2.1 q8.2.2 (by rw [x158]; exact hf) (by omega)) vl_X6_93 dX6_wentOn_124 o_158 rfl rfl (Nat.le_of_ble_eq_true rfl) ⟨(Nat.le_of_ble_eq_true rfl), (Nat.le_of_ble_eq_true rfl)⟩ rfl rfl (Nat.le_of_ble_eq_true rfl) (Nat.le_of_ble_eq_true rfl) (fun r9 J_124 hq9 => ?_)
        obtain ⟨z_124, rfl, hz_124, g_124, h_124, e_124⟩ := hq9
        exact tz_iret (pc := 127) (z := z_124) dX6_wentOn_127 rfl (Nat.le_of_ble_eq_true rfl) (Nat.le_of_ble_eq_true rfl) ⟨Nat.le_refl _, Nat.le_add_right _ _⟩ ⟨_, rfl, (by omega), ⟨m9, q8.tr g_124, by have := q8.1.1; omega, by rw [md9, nmd_n b9.1 (n9.o.resolve_right (fun q => by have := q.1.1; omega)).2, ← b9.2.2, h_124, ← e_124, hfk]; exact Or.inl ⟨Or.inr (by omega), rfl, N8.close q8.2.1⟩⟩⟩
    · refine tz_iload (pc := 93) dX6_wentOn_93 rfl ?_
      exact tz_iret (pc := 95) (z := z_83) dX6_wentOn_95 rfl (Nat.le_of_ble_eq_true rfl) (Nat.le_of_ble_eq_true rfl) ⟨Nat.le_refl _, Nat.le_add_right _ _⟩ ⟨_, rfl, (by omega), ⟨m9, q9, by omega, by rw [md9, nmd_f (a9.o.resolve_right (fun q => by have := q.1; omega)).2]; exact Or.inr ⟨rfl, Or.inl ⟨rfl, by omega⟩⟩⟩⟩
  · refine tz_aload_n (pc := 25) dX6_wentOn_25 rfl rfl ?_
    refine tz_aload_n (pc := 26) dX6_wentOn_26 rfl rfl ?_
    refine tz_fR (pc := 27) dX6_wentOn_27 fl_X6_38 r_158_1 ?_
    refine tz_iload_n (pc := 30) dX6_wentOn_30 rfl rfl ?_
    refine tz_aload_n (pc := 31) dX6_wentOn_31 rfl rfl ?_
    refine tz_fR (pc := 32) dX6_wentOn_32 fl_X6_15 r_158_5 ?_
    refine tz_iload_n (pc := 35) dX6_wentOn_35 rfl rfl ?_
    refine tz_aL (pc := 36) (z := f) (v := (J 160 f)) dX6_wentOn_36 a_160 rfl (by omega) rfl (fun r_36 => ?_)
    have hg := C.arg ha.1.1 ha.1.2 ha.2.1.1 (by omega)
    refine tz_cV (pc := 37) (c_arg hl n _ _ _ (by omega) (by omega) (by omega)) vl_X6_77 dX6_wentOn_37 o_6 rfl rfl (Nat.le_of_ble_eq_true rfl) ⟨(Nat.le_of_ble_eq_true rfl), (Nat.le_of_ble_eq_true rfl)⟩ rfl rfl (Nat.le_of_ble_eq_true rfl) (Nat.le_of_ble_eq_true rfl) (fun r9 J_37 hq9 => ?_)
    obtain ⟨z_37, rfl, hz_37, rfl, rfl⟩ := hq9
    refine tz_cV (pc := 40) (x_opened hl n _ _ (by omega) m S σ (F :: K) C hm hL hF (by omega) (by omega)) vl_X6_47 dX6_wentOn_40 o_158 rfl rfl (Nat.le_of_ble_eq_true rfl) ⟨(Nat.le_of_ble_eq_true rfl), (Nat.le_of_ble_eq_true rfl)⟩ rfl rfl (Nat.le_of_ble_eq_true rfl) (Nat.le_of_ble_eq_true rfl) (fun r9 J_40 hq9 => ?_)
    obtain ⟨z_40, rfl, hz_40, g_40, h_40, x_40, y_40⟩ := hq9
    exact tz_iret (pc := 43) (z := z_40) dX6_wentOn_43 rfl (Nat.le_of_ble_eq_true rfl) (Nat.le_of_ble_eq_true rfl) ⟨Nat.le_refl _, Nat.le_add_right _ _⟩ ⟨_, rfl, (by omega), ⟨m, g_40, h_40, by have sa := st_arg N C hm (by rw [← hfk]; omega) (by rw [← hfk]; omega); rw [← hfk] at sa; rw [sa]; exact x_40 (by omega) N (by rw [nfk_l, ← hfk]; omega)⟩⟩

