/-- J' is J with its table grown from m to m' terms, and what it likes in the cells of X -/
def GX (X : List Nat) (J' J : zJ) (m m' : Int) : Prop := m ≤ m' ∧ CT J' m' ∧ J' 6 12 = m' ∧ zSU J' J m ∧ zOf (zbut (6 :: 7 :: 8 :: 9 :: 10 :: 11 :: 12 :: 13 :: 14 :: 15 :: 16 :: 17 :: X)) J' J
theorem zbut_sub {A B : List Nat} (h : ∀ c, c ∈ A → c ∈ B) : ∀ c, zbut B c = true → zbut A c = true := fun c hc => by
  simp only [zbut, Bool.not_eq_true', List.contains_eq_mem, decide_eq_false_iff_not] at hc ⊢
  exact fun q => hc (h c q)
theorem GX.rf {X : List Nat} {J : zJ} {m : Int} (C : CT J m) (hm : J 6 12 = m) : GX X J J m m := ⟨by omega, C, hm, zSU.rf, zOf.rf⟩
theorem GX.tr {X : List Nat} {J3 J2 J1 : zJ} {m1 m2 m3 : Int} (g : GX X J2 J1 m1 m2) (h : GX X J3 J2 m2 m3) : GX X J3 J1 m1 m3 := ⟨by have := g.1; have := h.1; omega, h.2.1, h.2.2.1, (h.2.2.2.1.cut g.1).tr g.2.2.2.1, h.2.2.2.2.tr g.2.2.2.2⟩
theorem GX.mono {X Y : List Nat} {J' J : zJ} {m m' : Int} (g : GX X J' J m m') (h : ∀ c, c ∈ X → c ∈ Y) : GX Y J' J m m' := ⟨g.1, g.2.1, g.2.2.1, g.2.2.2.1, g.2.2.2.2.mono (zbut_sub (fun c hc => by
  simp only [List.mem_cons] at hc ⊢
  rcases hc with h1 | h1 | h1 | h1 | h1 | h1 | h1 | h1 | h1 | h1 | h1 | h1 | h1 <;> first | (subst h1; simp; done) | simp [h c h1]))⟩
theorem GR.x {X : List Nat} {J' J : zJ} {m m' : Int} (g : GR J' J m m') : GX X J' J m m' := ⟨g.1, g.2.1, g.2.2.1, g.2.2.2.1, g.2.2.2.2.mono (zbut_sub (fun c hc => by
  simp only [List.mem_cons, List.not_mem_nil, or_false] at hc ⊢
  rcases hc with h1 | h1 | h1 | h1 | h1 | h1 | h1 | h1 | h1 | h1 | h1 | h1 <;> simp [h1]))⟩
/-- writes to cells of X alone -/
theorem GX.off {X : List Nat} {J3 J2 J1 : zJ} {m m' : Int} (g : GX X J2 J1 m m') (hX : (X.all fun c => decide (17 < c)) = true) (f : zOf (zbut X) J3 J2) : GX X J3 J1 m m' := by
  have hn : ∀ c, c ≤ 17 → J3 c = J2 c := fun c hc => f c (by
    simp only [zbut, Bool.not_eq_true', List.contains_eq_mem, decide_eq_false_iff_not]
    intro q
    have := of_decide_eq_true (List.all_eq_true.mp hX c q)
    omega)
  have hs : ∀ k, zSU J3 J2 k := fun k => ⟨fun t _ _ => ⟨congrFun (hn 7 (by omega)) t, congrFun (hn 8 (by omega)) t, congrFun (hn 10 (by omega)) t, congrFun (hn 11 (by omega)) t, congrFun (hn 12 (by omega)) t, congrFun (hn 13 (by omega)) t, congrFun (hn 14 (by omega)) t, congrFun (hn 15 (by omega)) t⟩, fun k _ _ => congrFun (hn 9 (by omega)) k⟩
  refine ⟨g.1, g.2.1.of (fun c hc => hn c (by omega)), (congrFun (hn 6 (by omega)) 12).trans g.2.2.1, (hs _).tr g.2.2.2.1, zOf.tr (f.mono (zbut_sub (fun c hc => ?_))) g.2.2.2.2⟩
  simp [hc]
theorem GX.arg {X : List Nat} {J' J : zJ} {m m' t i : Int} (g : GX X J' J m m') (C : CT J m) (ht : 0 ≤ t ∧ t < m) (hi : 0 ≤ i ∧ i < J 8 t) : (0 ≤ J' 9 (t * 3 + i) ∧ J' 9 (t * 3 + i) < m) ∧ J' 9 (t * 3 + i) = J 9 (t * 3 + i) := by
  have ha := C.ar ht.1 ht.2
  have h1 := C.arg ht.1 ht.2 hi.1 hi.2
  rw [g.2.2.2.1.2 (t * 3 + i) (by omega) (by omega)]
  omega
theorem GX.row {X : List Nat} {J' J : zJ} {m m' f : Int} {r : Nat} (g : GX X J' J m m') (hr : zbut (6 :: 7 :: 8 :: 9 :: 10 :: 11 :: 12 :: 13 :: 14 :: 15 :: 16 :: 17 :: X) r = true) (h : rOK J r f m) : rOK J' r f m' := fun v a b => by
  rw [g.2.2.2.2 r hr]
  have := h v a b
  have := g.1
  omega
theorem GX.lt {X : List Nat} {J' J : zJ} {m m' t a b c : Int} (g : GX X J' J m m') (ht : 0 ≤ t ∧ t < m) (ha : 0 < J 8 t → a < m') (hb : 1 < J 8 t → b < m') (hc : 2 < J 8 t → c < m') : ltA (arh (J' 3) (J' 7 t)) a b c m' := by
  have h1 := (g.2.1.2.1 t ht.1 (by have := g.1; omega)).1.1
  rw [← h1, (g.2.2.2.1.1 t ht.1 ht.2).2.1]
  exact ⟨ha, hb, hc⟩
set_option maxHeartbeats 4000000 in
set_option maxRecDepth 100000 in
theorem c_drawnP {l : Launch} {G : tb_G} (hl : l.stackTraces = false) (n : Nat) : ∀ (r9 : Nat) (J : zJ) (x : Int) (hr_x : -2147483648 ≤ x ∧ x < 2147483648) (m : Int) (C : CT J m) (hm : J 6 12 = m), (x.toNat) < r9 → tz_Ok l G M_X2_drawnPart (4 + 1 * r9) 0 0 [.ref 141, zi x] n J (zqi (fun z J' => ∃ m', GX [141] J' J m m' ∧ (z = -3 ∨ (0 ≤ z ∧ z < m')))) zN := by
  intro r9
  induction r9 with
  | zero => intro J x hr_x m C hm hm9; exact absurd hm9 (Nat.not_lt_zero _)
  | succ r9 ih =>
    intro J x hr_x m C hm hm9
    refine tz_Ok.of hl (by decide +kernel) rfl (tb_c1 rfl) (Nat.le_of_ble_eq_true rfl) ?_
    show tz_At l G M_X2_drawnPart (tb_rm (4 + 1 * (r9 + 1)) 0 0) none (tb_ZM G 0 0 (zQ n 0 (zqi (fun z J' => ∃ m', GX [141] J' J m m' ∧ (z = -3 ∨ (0 ≤ z ∧ z < m'))))) (zX n 0 zN)) 0 0 n J 0 [some (.ref 141), some (zi x), none, none, none, none, none, none, none] []
    have hb := C.told
    have g0 : GX [141] J J m m := GX.rf C hm
    refine tz_aload_n (pc := 0) dX2_drawnPart_0 rfl rfl ?_
    refine tz_bipush (pc := 1) dX2_drawnPart_1 (by decide) ?_
    refine tz_cV (pc := 3) (c_drawOf hl n _ _ (by omega) (by omega)) vl_X2_111 dX2_drawnPart_3 o_141 rfl rfl (Nat.le_of_ble_eq_true rfl) ⟨(show 0 + 1 ≤ 4 + 1 * (r9 + 1) by omega), (show 8 + (2 + 11) + 40 * (0) ≤ 40 * (4 + 1 * (r9 + 1)) by omega)⟩ rfl rfl (Nat.le_of_ble_eq_true rfl) (Nat.le_of_ble_eq_true rfl) (fun r9 J_3 hq9 => ?_)
    obtain ⟨z_3, rfl, hz_3, hj_3, hz_3, -⟩ := hq9
    have f_3 : zOf (zbut [141]) J_3 J := by rw [← hj_3]; exact zOf.up rfl zOf.rf
    have q_3 : GX [141] J_3 J m m := (g0).off rfl f_3
    refine tz_istore_n (pc := 6) (L2 := [_, _, _, _, _, _, _, _, _]) dX2_drawnPart_6 rfl (by decide) rfl ?_
    refine tz_aload_n (pc := 7) dX2_drawnPart_7 rfl rfl ?_
    refine tz_fR (pc := 8) dX2_drawnPart_8 fl_X2_28 r_141_0 ?_
    refine tz_fR (pc := 11) dX2_drawnPart_11 fl_X2_114 r_6_0 ?_
    refine tz_fI (pc := 14) (kz := 3) (v := (J 1 3)) dX2_drawnPart_14 fl_X2_118 i_1_3 rfl (Eq.trans (congrFun (f_3 1 rfl) 3) rfl) (fun r_14 => ?_)
    refine tz_istore_n (pc := 17) (L2 := [_, _, _, _, _, _, _, _, _]) dX2_drawnPart_17 rfl (by decide) rfl ?_
    refine tz_iload_n (pc := 18) dX2_drawnPart_18 rfl rfl ?_
    refine tz_if_eq (pc := 19) (tgt := 31) dX2_drawnPart_19 (by decide) (by omega) (fun h_19 => ?_) (fun h_19 => ?_)
    · refine tz_aload_n (pc := 31) dX2_drawnPart_31 rfl rfl ?_
      refine tz_fR (pc := 32) dX2_drawnPart_32 fl_X2_28 r_141_0 ?_
      refine tz_aload_n (pc := 35) dX2_drawnPart_35 rfl rfl ?_
      refine tz_iconst (pc := 36) dX2_drawnPart_36 ?_
      refine tz_cV (pc := 37) (c_drawOf hl n _ _ (by omega) (by omega)) vl_X2_111 dX2_drawnPart_37 o_141 rfl rfl (Nat.le_of_ble_eq_true rfl) ⟨(show 0 + 1 ≤ 4 + 1 * (r9 + 1) by omega), (show 8 + (2 + 11) + 40 * (0) ≤ 40 * (4 + 1 * (r9 + 1)) by omega)⟩ rfl rfl (Nat.le_of_ble_eq_true rfl) (Nat.le_of_ble_eq_true rfl) (fun r9 J_37 hq9 => ?_)
      obtain ⟨z_37, rfl, hz_37, hj_37, hz_37, -⟩ := hq9
      have f_37 : zOf (zbut [141]) J_37 J_3 := by rw [← hj_37]; exact zOf.up rfl zOf.rf
      have q_37 : GX [141] J_37 J m m := (q_3).off rfl f_37
      have b_40 := (q_37).2.1.told
      refine tz_cV (pc := 40) (c_varTerm hl n _ _ (by omega) m (q_37).2.1 (q_37).2.2.1 (by omega)) vl_X2_99 dX2_drawnPart_40 o_6 rfl rfl (Nat.le_of_ble_eq_true rfl) ⟨(show 3 + 1 ≤ 4 + 1 * (r9 + 1) by omega), (show 8 + (2 + 11) + 40 * (3) ≤ 40 * (4 + 1 * (r9 + 1)) by omega)⟩ rfl rfl (Nat.le_of_ble_eq_true rfl) (Nat.le_of_ble_eq_true rfl) (fun r9 J_40 hq9 => ?_)
      obtain ⟨z_40, rfl, hz_40, p_40⟩ := hq9
      obtain ⟨m_40, g_40, h_40⟩ := GR.made p_40 (by omega)
      have q_40 : GX [141] J_40 J m m_40 := GX.tr q_37 (GR.x g_40)
      exact tz_iret (pc := 43) (z := z_40) dX2_drawnPart_43 rfl (Nat.le_of_ble_eq_true rfl) (Nat.le_of_ble_eq_true rfl) ⟨Nat.le_refl _, Nat.le_add_right _ _⟩ ⟨_, rfl, (by omega), ⟨m_40, q_40, h_40⟩⟩
    · refine tz_iload_n (pc := 22) dX2_drawnPart_22 rfl rfl ?_
      refine tz_iconst (pc := 23) dX2_drawnPart_23 ?_
      refine tz_icmp_le (pc := 24) (tgt := 31) dX2_drawnPart_24 (by decide) (by omega) (by decide) (fun h_24 => ?_) (fun h_24 => ?_)
      · refine tz_aload_n (pc := 31) dX2_drawnPart_31 rfl rfl ?_
        refine tz_fR (pc := 32) dX2_drawnPart_32 fl_X2_28 r_141_0 ?_
        refine tz_aload_n (pc := 35) dX2_drawnPart_35 rfl rfl ?_
        refine tz_iconst (pc := 36) dX2_drawnPart_36 ?_
        refine tz_cV (pc := 37) (c_drawOf hl n _ _ (by omega) (by omega)) vl_X2_111 dX2_drawnPart_37 o_141 rfl rfl (Nat.le_of_ble_eq_true rfl) ⟨(show 0 + 1 ≤ 4 + 1 * (r9 + 1) by omega), (show 8 + (2 + 11) + 40 * (0) ≤ 40 * (4 + 1 * (r9 + 1)) by omega)⟩ rfl rfl (Nat.le_of_ble_eq_true rfl) (Nat.le_of_ble_eq_true rfl) (fun r9 J_37 hq9 => ?_)
        obtain ⟨z_37, rfl, hz_37, hj_37, hz_37, -⟩ := hq9
        have f_37 : zOf (zbut [141]) J_37 J_3 := by rw [← hj_37]; exact zOf.up rfl zOf.rf
        have q_37 : GX [141] J_37 J m m := (q_3).off rfl f_37
        have b_40 := (q_37).2.1.told
        refine tz_cV (pc := 40) (c_varTerm hl n _ _ (by omega) m (q_37).2.1 (q_37).2.2.1 (by omega)) vl_X2_99 dX2_drawnPart_40 o_6 rfl rfl (Nat.le_of_ble_eq_true rfl) ⟨(show 3 + 1 ≤ 4 + 1 * (r9 + 1) by omega), (show 8 + (2 + 11) + 40 * (3) ≤ 40 * (4 + 1 * (r9 + 1)) by omega)⟩ rfl rfl (Nat.le_of_ble_eq_true rfl) (Nat.le_of_ble_eq_true rfl) (fun r9 J_40 hq9 => ?_)
        obtain ⟨z_40, rfl, hz_40, p_40⟩ := hq9
        obtain ⟨m_40, g_40, h_40⟩ := GR.made p_40 (by omega)
        have q_40 : GX [141] J_40 J m m_40 := GX.tr q_37 (GR.x g_40)
        exact tz_iret (pc := 43) (z := z_40) dX2_drawnPart_43 rfl (Nat.le_of_ble_eq_true rfl) (Nat.le_of_ble_eq_true rfl) ⟨Nat.le_refl _, Nat.le_add_right _ _⟩ ⟨_, rfl, (by omega), ⟨m_40, q_40, h_40⟩⟩
      · refine tz_iload_n (pc := 27) dX2_drawnPart_27 rfl rfl ?_
        refine tz_if_ne (pc := 28) (tgt := 44) dX2_drawnPart_28 (by decide) (by omega) (fun h_28 => ?_) (fun h_28 => ?_)
        · refine tz_aload_n (pc := 44) dX2_drawnPart_44 rfl rfl ?_
          refine tz_iload_n (pc := 45) dX2_drawnPart_45 rfl rfl ?_
          refine tz_cV (pc := 46) (c_drawOf hl n _ _ (by omega) (by omega)) vl_X2_111 dX2_drawnPart_46 o_141 rfl rfl (Nat.le_of_ble_eq_true rfl) ⟨(show 0 + 1 ≤ 4 + 1 * (r9 + 1) by omega), (show 8 + (2 + 11) + 40 * (0) ≤ 40 * (4 + 1 * (r9 + 1)) by omega)⟩ rfl rfl (Nat.le_of_ble_eq_true rfl) (Nat.le_of_ble_eq_true rfl) (fun r9 J_46 hq9 => ?_)
          obtain ⟨z_46, rfl, hz_46, hj_46, hz_46, -⟩ := hq9
          have f_46 : zOf (zbut [141]) J_46 J_3 := by rw [← hj_46]; exact zOf.up rfl zOf.rf
          have q_46 : GX [141] J_46 J m m := (q_3).off rfl f_46
          refine tz_istore (pc := 49) (L2 := [_, _, _, _, _, _, _, _, _]) dX2_drawnPart_49 (by decide) rfl ?_
          refine tz_aload_n (pc := 51) dX2_drawnPart_51 rfl rfl ?_
          refine tz_fR (pc := 52) dX2_drawnPart_52 fl_X2_28 r_141_0 ?_
          refine tz_fR (pc := 55) dX2_drawnPart_55 fl_X2_114 r_6_0 ?_
          refine tz_fR (pc := 58) dX2_drawnPart_58 fl_X2_123 r_1_1 ?_
          refine tz_iload (pc := 61) dX2_drawnPart_61 rfl ?_
          have hA := C.1.1.1.2 z_46 (by omega) (by omega)
          refine tz_aL (pc := 63) (z := z_46) (v := (J 3 z_46)) dX2_drawnPart_63 a_3 rfl (by omega) (Eq.trans (congrFun (f_46 3 rfl) z_46) (Eq.trans (congrFun (f_3 3 rfl) z_46) rfl)) (fun r_63 => ?_)
          refine tz_istore (pc := 64) (L2 := [_, _, _, _, _, _, _, _, _]) dX2_drawnPart_64 (by decide) rfl ?_
          refine tz_iload (pc := 66) dX2_drawnPart_66 rfl ?_
          refine tz_iconst (pc := 68) dX2_drawnPart_68 ?_
          refine tz_icmp_ge (pc := 69) (tgt := 76) dX2_drawnPart_69 (by decide) (by omega) (by decide) (fun h_69 => ?_) (fun h_69 => ?_)
          · refine tz_aload_n (pc := 76) dX2_drawnPart_76 rfl rfl ?_
            refine tz_iload_n (pc := 77) dX2_drawnPart_77 rfl rfl ?_
            refine tz_iconst (pc := 78) dX2_drawnPart_78 ?_
            refine tz_isub (pc := 79) (v := x - 1) dX2_drawnPart_79 rfl ?_
            refine tz_cV (pc := 80) (ih _ _ (by omega) m (q_46).2.1 (q_46).2.2.1 (by omega)) vl_X2_108 dX2_drawnPart_80 o_141 rfl rfl (Nat.le_of_ble_eq_true rfl) ⟨(show (4 + 1 * r9) + 1 ≤ 4 + 1 * (r9 + 1) by omega), (show 8 + (9 + 11) + 40 * ((4 + 1 * r9)) ≤ 40 * (4 + 1 * (r9 + 1)) by omega)⟩ rfl rfl (Nat.le_of_ble_eq_true rfl) (Nat.le_of_ble_eq_true rfl) (fun r9 J_80 hq9 => ?_)
            obtain ⟨z_80, rfl, hz_80, m_80, g_80, h_80⟩ := hq9
            have q_80 := GX.tr q_46 g_80
            have e_80 := g_80.1
            refine tz_istore (pc := 83) (L2 := [_, _, _, _, _, _, _, _, _]) dX2_drawnPart_83 (by decide) rfl ?_
            refine tz_iload (pc := 85) dX2_drawnPart_85 rfl ?_
            refine tz_iconst (pc := 87) dX2_drawnPart_87 ?_
            refine tz_icmp_ge (pc := 88) (tgt := 95) dX2_drawnPart_88 (by decide) (by omega) (by decide) (fun h_88 => ?_) (fun h_88 => ?_)
            · refine tz_aload_n (pc := 95) dX2_drawnPart_95 rfl rfl ?_
              refine tz_iload_n (pc := 96) dX2_drawnPart_96 rfl rfl ?_
              refine tz_iconst (pc := 97) dX2_drawnPart_97 ?_
              refine tz_isub (pc := 98) (v := x - 1) dX2_drawnPart_98 rfl ?_
              refine tz_cV (pc := 99) (ih _ _ (by omega) m_80 (q_80).2.1 (q_80).2.2.1 (by omega)) vl_X2_108 dX2_drawnPart_99 o_141 rfl rfl (Nat.le_of_ble_eq_true rfl) ⟨(show (4 + 1 * r9) + 1 ≤ 4 + 1 * (r9 + 1) by omega), (show 8 + (9 + 11) + 40 * ((4 + 1 * r9)) ≤ 40 * (4 + 1 * (r9 + 1)) by omega)⟩ rfl rfl (Nat.le_of_ble_eq_true rfl) (Nat.le_of_ble_eq_true rfl) (fun r9 J_99 hq9 => ?_)
              obtain ⟨z_99, rfl, hz_99, m_99, g_99, h_99⟩ := hq9
              have q_99 := GX.tr q_80 g_99
              have e_99 := g_99.1
              refine tz_istore (pc := 102) (L2 := [_, _, _, _, _, _, _, _, _]) dX2_drawnPart_102 (by decide) rfl ?_
              refine tz_iload (pc := 104) dX2_drawnPart_104 rfl ?_
              refine tz_iconst (pc := 106) dX2_drawnPart_106 ?_
              refine tz_icmp_ge (pc := 107) (tgt := 114) dX2_drawnPart_107 (by decide) (by omega) (by decide) (fun h_107 => ?_) (fun h_107 => ?_)
              · refine tz_aload_n (pc := 114) dX2_drawnPart_114 rfl rfl ?_
                refine tz_iload_n (pc := 115) dX2_drawnPart_115 rfl rfl ?_
                refine tz_iconst (pc := 116) dX2_drawnPart_116 ?_
                refine tz_isub (pc := 117) (v := x - 1) dX2_drawnPart_117 rfl ?_
                refine tz_cV (pc := 118) (ih _ _ (by omega) m_99 (q_99).2.1 (q_99).2.2.1 (by omega)) vl_X2_108 dX2_drawnPart_118 o_141 rfl rfl (Nat.le_of_ble_eq_true rfl) ⟨(show (4 + 1 * r9) + 1 ≤ 4 + 1 * (r9 + 1) by omega), (show 8 + (9 + 11) + 40 * ((4 + 1 * r9)) ≤ 40 * (4 + 1 * (r9 + 1)) by omega)⟩ rfl rfl (Nat.le_of_ble_eq_true rfl) (Nat.le_of_ble_eq_true rfl) (fun r9 J_118 hq9 => ?_)
                obtain ⟨z_118, rfl, hz_118, m_118, g_118, h_118⟩ := hq9
                have q_118 := GX.tr q_99 g_118
                have e_118 := g_118.1
                refine tz_istore (pc := 121) (L2 := [_, _, _, _, _, _, _, _, _]) dX2_drawnPart_121 (by decide) rfl ?_
                refine tz_aload_n (pc := 123) dX2_drawnPart_123 rfl rfl ?_
                refine tz_fR (pc := 124) dX2_drawnPart_124 fl_X2_28 r_141_0 ?_
                refine tz_iload (pc := 127) dX2_drawnPart_127 rfl ?_
                refine tz_iload (pc := 129) dX2_drawnPart_129 rfl ?_
                refine tz_iload (pc := 131) dX2_drawnPart_131 rfl ?_
                refine tz_iload (pc := 133) dX2_drawnPart_133 rfl ?_
                have x_3 := (q_118).2.2.2.2 3 rfl
                have x_1 := (q_118).2.2.2.2 1 rfl
                refine tz_cV (pc := 135) (c_made hl n _ _ _ _ _ (by omega) (by omega) (by omega) (by omega) m_118 (q_118).2.1 (q_118).2.2.1 (by rw [x_1]; omega) (ltA_of (by omega) (by omega) (by omega))) vl_X2_52 dX2_drawnPart_135 o_6 rfl rfl (Nat.le_of_ble_eq_true rfl) ⟨(show 2 + 1 ≤ 4 + 1 * (r9 + 1) by omega), (show 8 + (11 + 11) + 40 * (2) ≤ 40 * (4 + 1 * (r9 + 1)) by omega)⟩ rfl rfl (Nat.le_of_ble_eq_true rfl) (Nat.le_of_ble_eq_true rfl) (fun r9 J_135 hq9 => ?_)
                obtain ⟨z_135, rfl, hz_135, p_135⟩ := hq9
                obtain ⟨m_135, g_135, h_135⟩ := GR.made p_135 (by omega)
                have q_135 : GX [141] J_135 J m m_135 := GX.tr q_118 (GR.x g_135)
                exact tz_iret (pc := 138) (z := z_135) dX2_drawnPart_138 rfl (Nat.le_of_ble_eq_true rfl) (Nat.le_of_ble_eq_true rfl) ⟨Nat.le_refl _, Nat.le_add_right _ _⟩ ⟨_, rfl, (by omega), ⟨m_135, q_135, h_135⟩⟩
              · refine tz_iconst (pc := 110) dX2_drawnPart_110 ?_
                refine tz_goto (pc := 111) (tgt := 121) dX2_drawnPart_111 (by decide) ?_
                refine tz_istore (pc := 121) (L2 := [_, _, _, _, _, _, _, _, _]) dX2_drawnPart_121 (by decide) rfl ?_
                refine tz_aload_n (pc := 123) dX2_drawnPart_123 rfl rfl ?_
                refine tz_fR (pc := 124) dX2_drawnPart_124 fl_X2_28 r_141_0 ?_
                refine tz_iload (pc := 127) dX2_drawnPart_127 rfl ?_
                refine tz_iload (pc := 129) dX2_drawnPart_129 rfl ?_
                refine tz_iload (pc := 131) dX2_drawnPart_131 rfl ?_
                refine tz_iload (pc := 133) dX2_drawnPart_133 rfl ?_
                have x_3 := (q_99).2.2.2.2 3 rfl
                have x_1 := (q_99).2.2.2.2 1 rfl
                refine tz_cV (pc := 135) (c_made hl n _ _ _ _ _ (by omega) (by omega) (by omega) (by omega) m_99 (q_99).2.1 (q_99).2.2.1 (by rw [x_1]; omega) (ltA_of (by omega) (by omega) (by omega))) vl_X2_52 dX2_drawnPart_135 o_6 rfl rfl (Nat.le_of_ble_eq_true rfl) ⟨(show 2 + 1 ≤ 4 + 1 * (r9 + 1) by omega), (show 8 + (11 + 11) + 40 * (2) ≤ 40 * (4 + 1 * (r9 + 1)) by omega)⟩ rfl rfl (Nat.le_of_ble_eq_true rfl) (Nat.le_of_ble_eq_true rfl) (fun r9 J_135 hq9 => ?_)
                obtain ⟨z_135, rfl, hz_135, p_135⟩ := hq9
                obtain ⟨m_135, g_135, h_135⟩ := GR.made p_135 (by omega)
                have q_135 : GX [141] J_135 J m m_135 := GX.tr q_99 (GR.x g_135)
                exact tz_iret (pc := 138) (z := z_135) dX2_drawnPart_138 rfl (Nat.le_of_ble_eq_true rfl) (Nat.le_of_ble_eq_true rfl) ⟨Nat.le_refl _, Nat.le_add_right _ _⟩ ⟨_, rfl, (by omega), ⟨m_135, q_135, h_135⟩⟩
            · refine tz_iconst (pc := 91) dX2_drawnPart_91 ?_
              refine tz_goto (pc := 92) (tgt := 102) dX2_drawnPart_92 (by decide) ?_
              refine tz_istore (pc := 102) (L2 := [_, _, _, _, _, _, _, _, _]) dX2_drawnPart_102 (by decide) rfl ?_
              refine tz_iload (pc := 104) dX2_drawnPart_104 rfl ?_
              refine tz_iconst (pc := 106) dX2_drawnPart_106 ?_
              refine tz_icmp_ge (pc := 107) (tgt := 114) dX2_drawnPart_107 (by decide) (by omega) (by decide) (fun h_107 => ?_) (fun h_107 => ?_)
              · refine tz_aload_n (pc := 114) dX2_drawnPart_114 rfl rfl ?_
                refine tz_iload_n (pc := 115) dX2_drawnPart_115 rfl rfl ?_
                refine tz_iconst (pc := 116) dX2_drawnPart_116 ?_
                refine tz_isub (pc := 117) (v := x - 1) dX2_drawnPart_117 rfl ?_
                refine tz_cV (pc := 118) (ih _ _ (by omega) m_80 (q_80).2.1 (q_80).2.2.1 (by omega)) vl_X2_108 dX2_drawnPart_118 o_141 rfl rfl (Nat.le_of_ble_eq_true rfl) ⟨(show (4 + 1 * r9) + 1 ≤ 4 + 1 * (r9 + 1) by omega), (show 8 + (9 + 11) + 40 * ((4 + 1 * r9)) ≤ 40 * (4 + 1 * (r9 + 1)) by omega)⟩ rfl rfl (Nat.le_of_ble_eq_true rfl) (Nat.le_of_ble_eq_true rfl) (fun r9 J_118 hq9 => ?_)
                obtain ⟨z_118, rfl, hz_118, m_118, g_118, h_118⟩ := hq9
                have q_118 := GX.tr q_80 g_118
                have e_118 := g_118.1
                refine tz_istore (pc := 121) (L2 := [_, _, _, _, _, _, _, _, _]) dX2_drawnPart_121 (by decide) rfl ?_
                refine tz_aload_n (pc := 123) dX2_drawnPart_123 rfl rfl ?_
                refine tz_fR (pc := 124) dX2_drawnPart_124 fl_X2_28 r_141_0 ?_
                refine tz_iload (pc := 127) dX2_drawnPart_127 rfl ?_
                refine tz_iload (pc := 129) dX2_drawnPart_129 rfl ?_
                refine tz_iload (pc := 131) dX2_drawnPart_131 rfl ?_
                refine tz_iload (pc := 133) dX2_drawnPart_133 rfl ?_
                have x_3 := (q_118).2.2.2.2 3 rfl
                have x_1 := (q_118).2.2.2.2 1 rfl
                refine tz_cV (pc := 135) (c_made hl n _ _ _ _ _ (by omega) (by omega) (by omega) (by omega) m_118 (q_118).2.1 (q_118).2.2.1 (by rw [x_1]; omega) (ltA_of (by omega) (by omega) (by omega))) vl_X2_52 dX2_drawnPart_135 o_6 rfl rfl (Nat.le_of_ble_eq_true rfl) ⟨(show 2 + 1 ≤ 4 + 1 * (r9 + 1) by omega), (show 8 + (11 + 11) + 40 * (2) ≤ 40 * (4 + 1 * (r9 + 1)) by omega)⟩ rfl rfl (Nat.le_of_ble_eq_true rfl) (Nat.le_of_ble_eq_true rfl) (fun r9 J_135 hq9 => ?_)
                obtain ⟨z_135, rfl, hz_135, p_135⟩ := hq9
                obtain ⟨m_135, g_135, h_135⟩ := GR.made p_135 (by omega)
                have q_135 : GX [141] J_135 J m m_135 := GX.tr q_118 (GR.x g_135)
                exact tz_iret (pc := 138) (z := z_135) dX2_drawnPart_138 rfl (Nat.le_of_ble_eq_true rfl) (Nat.le_of_ble_eq_true rfl) ⟨Nat.le_refl _, Nat.le_add_right _ _⟩ ⟨_, rfl, (by omega), ⟨m_135, q_135, h_135⟩⟩
              · refine tz_iconst (pc := 110) dX2_drawnPart_110 ?_
                refine tz_goto (pc := 111) (tgt := 121) dX2_drawnPart_111 (by decide) ?_
                refine tz_istore (pc := 121) (L2 := [_, _, _, _, _, _, _, _, _]) dX2_drawnPart_121 (by decide) rfl ?_
                refine tz_aload_n (pc := 123) dX2_drawnPart_123 rfl rfl ?_
                refine tz_fR (pc := 124) dX2_drawnPart_124 fl_X2_28 r_141_0 ?_
                refine tz_iload (pc := 127) dX2_drawnPart_127 rfl ?_
                refine tz_iload (pc := 129) dX2_drawnPart_129 rfl ?_
                refine tz_iload (pc := 131) dX2_drawnPart_131 rfl ?_
                refine tz_iload (pc := 133) dX2_drawnPart_133 rfl ?_
                have x_3 := (q_80).2.2.2.2 3 rfl
                have x_1 := (q_80).2.2.2.2 1 rfl
                refine tz_cV (pc := 135) (c_made hl n _ _ _ _ _ (by omega) (by omega) (by omega) (by omega) m_80 (q_80).2.1 (q_80).2.2.1 (by rw [x_1]; omega) (ltA_of (by omega) (by omega) (by omega))) vl_X2_52 dX2_drawnPart_135 o_6 rfl rfl (Nat.le_of_ble_eq_true rfl) ⟨(show 2 + 1 ≤ 4 + 1 * (r9 + 1) by omega), (show 8 + (11 + 11) + 40 * (2) ≤ 40 * (4 + 1 * (r9 + 1)) by omega)⟩ rfl rfl (Nat.le_of_ble_eq_true rfl) (Nat.le_of_ble_eq_true rfl) (fun r9 J_135 hq9 => ?_)
                obtain ⟨z_135, rfl, hz_135, p_135⟩ := hq9
                obtain ⟨m_135, g_135, h_135⟩ := GR.made p_135 (by omega)
                have q_135 : GX [141] J_135 J m m_135 := GX.tr q_80 (GR.x g_135)
                exact tz_iret (pc := 138) (z := z_135) dX2_drawnPart_138 rfl (Nat.le_of_ble_eq_true rfl) (Nat.le_of_ble_eq_true rfl) ⟨Nat.le_refl _, Nat.le_add_right _ _⟩ ⟨_, rfl, (by omega), ⟨m_135, q_135, h_135⟩⟩
          · refine tz_iconst (pc := 72) dX2_drawnPart_72 ?_
            refine tz_goto (pc := 73) (tgt := 83) dX2_drawnPart_73 (by decide) ?_
            refine tz_istore (pc := 83) (L2 := [_, _, _, _, _, _, _, _, _]) dX2_drawnPart_83 (by decide) rfl ?_
            refine tz_iload (pc := 85) dX2_drawnPart_85 rfl ?_
            refine tz_iconst (pc := 87) dX2_drawnPart_87 ?_
            refine tz_icmp_ge (pc := 88) (tgt := 95) dX2_drawnPart_88 (by decide) (by omega) (by decide) (fun h_88 => ?_) (fun h_88 => ?_)
            · refine tz_aload_n (pc := 95) dX2_drawnPart_95 rfl rfl ?_
              refine tz_iload_n (pc := 96) dX2_drawnPart_96 rfl rfl ?_
              refine tz_iconst (pc := 97) dX2_drawnPart_97 ?_
              refine tz_isub (pc := 98) (v := x - 1) dX2_drawnPart_98 rfl ?_
              refine tz_cV (pc := 99) (ih _ _ (by omega) m (q_46).2.1 (q_46).2.2.1 (by omega)) vl_X2_108 dX2_drawnPart_99 o_141 rfl rfl (Nat.le_of_ble_eq_true rfl) ⟨(show (4 + 1 * r9) + 1 ≤ 4 + 1 * (r9 + 1) by omega), (show 8 + (9 + 11) + 40 * ((4 + 1 * r9)) ≤ 40 * (4 + 1 * (r9 + 1)) by omega)⟩ rfl rfl (Nat.le_of_ble_eq_true rfl) (Nat.le_of_ble_eq_true rfl) (fun r9 J_99 hq9 => ?_)
              obtain ⟨z_99, rfl, hz_99, m_99, g_99, h_99⟩ := hq9
              have q_99 := GX.tr q_46 g_99
              have e_99 := g_99.1
              refine tz_istore (pc := 102) (L2 := [_, _, _, _, _, _, _, _, _]) dX2_drawnPart_102 (by decide) rfl ?_
              refine tz_iload (pc := 104) dX2_drawnPart_104 rfl ?_
              refine tz_iconst (pc := 106) dX2_drawnPart_106 ?_
              refine tz_icmp_ge (pc := 107) (tgt := 114) dX2_drawnPart_107 (by decide) (by omega) (by decide) (fun h_107 => ?_) (fun h_107 => ?_)
              · refine tz_aload_n (pc := 114) dX2_drawnPart_114 rfl rfl ?_
                refine tz_iload_n (pc := 115) dX2_drawnPart_115 rfl rfl ?_
                refine tz_iconst (pc := 116) dX2_drawnPart_116 ?_
                refine tz_isub (pc := 117) (v := x - 1) dX2_drawnPart_117 rfl ?_
                refine tz_cV (pc := 118) (ih _ _ (by omega) m_99 (q_99).2.1 (q_99).2.2.1 (by omega)) vl_X2_108 dX2_drawnPart_118 o_141 rfl rfl (Nat.le_of_ble_eq_true rfl) ⟨(show (4 + 1 * r9) + 1 ≤ 4 + 1 * (r9 + 1) by omega), (show 8 + (9 + 11) + 40 * ((4 + 1 * r9)) ≤ 40 * (4 + 1 * (r9 + 1)) by omega)⟩ rfl rfl (Nat.le_of_ble_eq_true rfl) (Nat.le_of_ble_eq_true rfl) (fun r9 J_118 hq9 => ?_)
                obtain ⟨z_118, rfl, hz_118, m_118, g_118, h_118⟩ := hq9
                have q_118 := GX.tr q_99 g_118
                have e_118 := g_118.1
                refine tz_istore (pc := 121) (L2 := [_, _, _, _, _, _, _, _, _]) dX2_drawnPart_121 (by decide) rfl ?_
                refine tz_aload_n (pc := 123) dX2_drawnPart_123 rfl rfl ?_
                refine tz_fR (pc := 124) dX2_drawnPart_124 fl_X2_28 r_141_0 ?_
                refine tz_iload (pc := 127) dX2_drawnPart_127 rfl ?_
                refine tz_iload (pc := 129) dX2_drawnPart_129 rfl ?_
                refine tz_iload (pc := 131) dX2_drawnPart_131 rfl ?_
                refine tz_iload (pc := 133) dX2_drawnPart_133 rfl ?_
                have x_3 := (q_118).2.2.2.2 3 rfl
                have x_1 := (q_118).2.2.2.2 1 rfl
                refine tz_cV (pc := 135) (c_made hl n _ _ _ _ _ (by omega) (by omega) (by omega) (by omega) m_118 (q_118).2.1 (q_118).2.2.1 (by rw [x_1]; omega) (ltA_of (by omega) (by omega) (by omega))) vl_X2_52 dX2_drawnPart_135 o_6 rfl rfl (Nat.le_of_ble_eq_true rfl) ⟨(show 2 + 1 ≤ 4 + 1 * (r9 + 1) by omega), (show 8 + (11 + 11) + 40 * (2) ≤ 40 * (4 + 1 * (r9 + 1)) by omega)⟩ rfl rfl (Nat.le_of_ble_eq_true rfl) (Nat.le_of_ble_eq_true rfl) (fun r9 J_135 hq9 => ?_)
                obtain ⟨z_135, rfl, hz_135, p_135⟩ := hq9
                obtain ⟨m_135, g_135, h_135⟩ := GR.made p_135 (by omega)
                have q_135 : GX [141] J_135 J m m_135 := GX.tr q_118 (GR.x g_135)
                exact tz_iret (pc := 138) (z := z_135) dX2_drawnPart_138 rfl (Nat.le_of_ble_eq_true rfl) (Nat.le_of_ble_eq_true rfl) ⟨Nat.le_refl _, Nat.le_add_right _ _⟩ ⟨_, rfl, (by omega), ⟨m_135, q_135, h_135⟩⟩
              · refine tz_iconst (pc := 110) dX2_drawnPart_110 ?_
                refine tz_goto (pc := 111) (tgt := 121) dX2_drawnPart_111 (by decide) ?_
                refine tz_istore (pc := 121) (L2 := [_, _, _, _, _, _, _, _, _]) dX2_drawnPart_121 (by decide) rfl ?_
                refine tz_aload_n (pc := 123) dX2_drawnPart_123 rfl rfl ?_
                refine tz_fR (pc := 124) dX2_drawnPart_124 fl_X2_28 r_141_0 ?_
                refine tz_iload (pc := 127) dX2_drawnPart_127 rfl ?_
                refine tz_iload (pc := 129) dX2_drawnPart_129 rfl ?_
                refine tz_iload (pc := 131) dX2_drawnPart_131 rfl ?_
                refine tz_iload (pc := 133) dX2_drawnPart_133 rfl ?_
                have x_3 := (q_99).2.2.2.2 3 rfl
                have x_1 := (q_99).2.2.2.2 1 rfl
                refine tz_cV (pc := 135) (c_made hl n _ _ _ _ _ (by omega) (by omega) (by omega) (by omega) m_99 (q_99).2.1 (q_99).2.2.1 (by rw [x_1]; omega) (ltA_of (by omega) (by omega) (by omega))) vl_X2_52 dX2_drawnPart_135 o_6 rfl rfl (Nat.le_of_ble_eq_true rfl) ⟨(show 2 + 1 ≤ 4 + 1 * (r9 + 1) by omega), (show 8 + (11 + 11) + 40 * (2) ≤ 40 * (4 + 1 * (r9 + 1)) by omega)⟩ rfl rfl (Nat.le_of_ble_eq_true rfl) (Nat.le_of_ble_eq_true rfl) (fun r9 J_135 hq9 => ?_)
                obtain ⟨z_135, rfl, hz_135, p_135⟩ := hq9
                obtain ⟨m_135, g_135, h_135⟩ := GR.made p_135 (by omega)
                have q_135 : GX [141] J_135 J m m_135 := GX.tr q_99 (GR.x g_135)
                exact tz_iret (pc := 138) (z := z_135) dX2_drawnPart_138 rfl (Nat.le_of_ble_eq_true rfl) (Nat.le_of_ble_eq_true rfl) ⟨Nat.le_refl _, Nat.le_add_right _ _⟩ ⟨_, rfl, (by omega), ⟨m_135, q_135, h_135⟩⟩
            · refine tz_iconst (pc := 91) dX2_drawnPart_91 ?_
              refine tz_goto (pc := 92) (tgt := 102) dX2_drawnPart_92 (by decide) ?_
              refine tz_istore (pc := 102) (L2 := [_, _, _, _, _, _, _, _, _]) dX2_drawnPart_102 (by decide) rfl ?_
              refine tz_iload (pc := 104) dX2_drawnPart_104 rfl ?_
              refine tz_iconst (pc := 106) dX2_drawnPart_106 ?_
              refine tz_icmp_ge (pc := 107) (tgt := 114) dX2_drawnPart_107 (by decide) (by omega) (by decide) (fun h_107 => ?_) (fun h_107 => ?_)
              · refine tz_aload_n (pc := 114) dX2_drawnPart_114 rfl rfl ?_
                refine tz_iload_n (pc := 115) dX2_drawnPart_115 rfl rfl ?_
                refine tz_iconst (pc := 116) dX2_drawnPart_116 ?_
                refine tz_isub (pc := 117) (v := x - 1) dX2_drawnPart_117 rfl ?_
                refine tz_cV (pc := 118) (ih _ _ (by omega) m (q_46).2.1 (q_46).2.2.1 (by omega)) vl_X2_108 dX2_drawnPart_118 o_141 rfl rfl (Nat.le_of_ble_eq_true rfl) ⟨(show (4 + 1 * r9) + 1 ≤ 4 + 1 * (r9 + 1) by omega), (show 8 + (9 + 11) + 40 * ((4 + 1 * r9)) ≤ 40 * (4 + 1 * (r9 + 1)) by omega)⟩ rfl rfl (Nat.le_of_ble_eq_true rfl) (Nat.le_of_ble_eq_true rfl) (fun r9 J_118 hq9 => ?_)
                obtain ⟨z_118, rfl, hz_118, m_118, g_118, h_118⟩ := hq9
                have q_118 := GX.tr q_46 g_118
                have e_118 := g_118.1
                refine tz_istore (pc := 121) (L2 := [_, _, _, _, _, _, _, _, _]) dX2_drawnPart_121 (by decide) rfl ?_
                refine tz_aload_n (pc := 123) dX2_drawnPart_123 rfl rfl ?_
                refine tz_fR (pc := 124) dX2_drawnPart_124 fl_X2_28 r_141_0 ?_
                refine tz_iload (pc := 127) dX2_drawnPart_127 rfl ?_
                refine tz_iload (pc := 129) dX2_drawnPart_129 rfl ?_
                refine tz_iload (pc := 131) dX2_drawnPart_131 rfl ?_
                refine tz_iload (pc := 133) dX2_drawnPart_133 rfl ?_
                have x_3 := (q_118).2.2.2.2 3 rfl
                have x_1 := (q_118).2.2.2.2 1 rfl
                refine tz_cV (pc := 135) (c_made hl n _ _ _ _ _ (by omega) (by omega) (by omega) (by omega) m_118 (q_118).2.1 (q_118).2.2.1 (by rw [x_1]; omega) (ltA_of (by omega) (by omega) (by omega))) vl_X2_52 dX2_drawnPart_135 o_6 rfl rfl (Nat.le_of_ble_eq_true rfl) ⟨(show 2 + 1 ≤ 4 + 1 * (r9 + 1) by omega), (show 8 + (11 + 11) + 40 * (2) ≤ 40 * (4 + 1 * (r9 + 1)) by omega)⟩ rfl rfl (Nat.le_of_ble_eq_true rfl) (Nat.le_of_ble_eq_true rfl) (fun r9 J_135 hq9 => ?_)
                obtain ⟨z_135, rfl, hz_135, p_135⟩ := hq9
                obtain ⟨m_135, g_135, h_135⟩ := GR.made p_135 (by omega)
                have q_135 : GX [141] J_135 J m m_135 := GX.tr q_118 (GR.x g_135)
                exact tz_iret (pc := 138) (z := z_135) dX2_drawnPart_138 rfl (Nat.le_of_ble_eq_true rfl) (Nat.le_of_ble_eq_true rfl) ⟨Nat.le_refl _, Nat.le_add_right _ _⟩ ⟨_, rfl, (by omega), ⟨m_135, q_135, h_135⟩⟩
              · refine tz_iconst (pc := 110) dX2_drawnPart_110 ?_
                refine tz_goto (pc := 111) (tgt := 121) dX2_drawnPart_111 (by decide) ?_
                refine tz_istore (pc := 121) (L2 := [_, _, _, _, _, _, _, _, _]) dX2_drawnPart_121 (by decide) rfl ?_
                refine tz_aload_n (pc := 123) dX2_drawnPart_123 rfl rfl ?_
                refine tz_fR (pc := 124) dX2_drawnPart_124 fl_X2_28 r_141_0 ?_
                refine tz_iload (pc := 127) dX2_drawnPart_127 rfl ?_
                refine tz_iload (pc := 129) dX2_drawnPart_129 rfl ?_
                refine tz_iload (pc := 131) dX2_drawnPart_131 rfl ?_
                refine tz_iload (pc := 133) dX2_drawnPart_133 rfl ?_
                have x_3 := (q_46).2.2.2.2 3 rfl
                have x_1 := (q_46).2.2.2.2 1 rfl
                refine tz_cV (pc := 135) (c_made hl n _ _ _ _ _ (by omega) (by omega) (by omega) (by omega) m (q_46).2.1 (q_46).2.2.1 (by rw [x_1]; omega) (ltA_of (by omega) (by omega) (by omega))) vl_X2_52 dX2_drawnPart_135 o_6 rfl rfl (Nat.le_of_ble_eq_true rfl) ⟨(show 2 + 1 ≤ 4 + 1 * (r9 + 1) by omega), (show 8 + (11 + 11) + 40 * (2) ≤ 40 * (4 + 1 * (r9 + 1)) by omega)⟩ rfl rfl (Nat.le_of_ble_eq_true rfl) (Nat.le_of_ble_eq_true rfl) (fun r9 J_135 hq9 => ?_)
                obtain ⟨z_135, rfl, hz_135, p_135⟩ := hq9
                obtain ⟨m_135, g_135, h_135⟩ := GR.made p_135 (by omega)
                have q_135 : GX [141] J_135 J m m_135 := GX.tr q_46 (GR.x g_135)
                exact tz_iret (pc := 138) (z := z_135) dX2_drawnPart_138 rfl (Nat.le_of_ble_eq_true rfl) (Nat.le_of_ble_eq_true rfl) ⟨Nat.le_refl _, Nat.le_add_right _ _⟩ ⟨_, rfl, (by omega), ⟨m_135, q_135, h_135⟩⟩
        · refine tz_aload_n (pc := 31) dX2_drawnPart_31 rfl rfl ?_
          refine tz_fR (pc := 32) dX2_drawnPart_32 fl_X2_28 r_141_0 ?_
          refine tz_aload_n (pc := 35) dX2_drawnPart_35 rfl rfl ?_
          refine tz_iconst (pc := 36) dX2_drawnPart_36 ?_
          refine tz_cV (pc := 37) (c_drawOf hl n _ _ (by omega) (by omega)) vl_X2_111 dX2_drawnPart_37 o_141 rfl rfl (Nat.le_of_ble_eq_true rfl) ⟨(show 0 + 1 ≤ 4 + 1 * (r9 + 1) by omega), (show 8 + (2 + 11) + 40 * (0) ≤ 40 * (4 + 1 * (r9 + 1)) by omega)⟩ rfl rfl (Nat.le_of_ble_eq_true rfl) (Nat.le_of_ble_eq_true rfl) (fun r9 J_37 hq9 => ?_)
          obtain ⟨z_37, rfl, hz_37, hj_37, hz_37, -⟩ := hq9
          have f_37 : zOf (zbut [141]) J_37 J_3 := by rw [← hj_37]; exact zOf.up rfl zOf.rf
          have q_37 : GX [141] J_37 J m m := (q_3).off rfl f_37
          have b_40 := (q_37).2.1.told
          refine tz_cV (pc := 40) (c_varTerm hl n _ _ (by omega) m (q_37).2.1 (q_37).2.2.1 (by omega)) vl_X2_99 dX2_drawnPart_40 o_6 rfl rfl (Nat.le_of_ble_eq_true rfl) ⟨(show 3 + 1 ≤ 4 + 1 * (r9 + 1) by omega), (show 8 + (2 + 11) + 40 * (3) ≤ 40 * (4 + 1 * (r9 + 1)) by omega)⟩ rfl rfl (Nat.le_of_ble_eq_true rfl) (Nat.le_of_ble_eq_true rfl) (fun r9 J_40 hq9 => ?_)
          obtain ⟨z_40, rfl, hz_40, p_40⟩ := hq9
          obtain ⟨m_40, g_40, h_40⟩ := GR.made p_40 (by omega)
          have q_40 : GX [141] J_40 J m m_40 := GX.tr q_37 (GR.x g_40)
          exact tz_iret (pc := 43) (z := z_40) dX2_drawnPart_43 rfl (Nat.le_of_ble_eq_true rfl) (Nat.le_of_ble_eq_true rfl) ⟨Nat.le_refl _, Nat.le_add_right _ _⟩ ⟨_, rfl, (by omega), ⟨m_40, q_40, h_40⟩⟩

set_option maxHeartbeats 4000000 in
set_option maxRecDepth 100000 in
theorem c_drawn {l : Launch} {G : tb_G} (hl : l.stackTraces = false) (n : Nat) (J : zJ) (x : Int) (hr_x : -2147483648 ≤ x ∧ x < 2147483648) (m : Int) (C : CT J m) (hm : J 6 12 = m) : tz_Ok l G M_X2_drawn 10 0 0 [.ref 141, zi x] n J (zqi (fun z J' => ∃ m', GX [141] J' J m m' ∧ (z = -3 ∨ (0 ≤ z ∧ z < m')))) zN := by
  refine tz_Ok.of hl (by decide +kernel) rfl (tb_c1 rfl) (Nat.le_of_ble_eq_true rfl) ?_
  show tz_At l G M_X2_drawn (tb_rm 10 0 0) none (tb_ZM G 0 0 (zQ n 0 (zqi (fun z J' => ∃ m', GX [141] J' J m m' ∧ (z = -3 ∨ (0 ≤ z ∧ z < m'))))) (zX n 0 zN)) 0 0 n J 0 [some (.ref 141), some (zi x)] []
  refine tz_aload_n (pc := 0) dX2_drawn_0 rfl rfl ?_
  refine tz_iload_n (pc := 1) dX2_drawn_1 rfl rfl ?_
  refine tz_iconst (pc := 2) dX2_drawn_2 ?_
  refine tz_mn (pc := 3) (v := if 4 < x then 4 else x) dX2_drawn_3 ml_X2_103 (Nat.le_of_ble_eq_true rfl) (Nat.le_of_ble_eq_true rfl) (Nat.le_of_ble_eq_true rfl) (Nat.le_of_ble_eq_true rfl) (by omega) (by decide) rfl ?_
  refine tz_cV (pc := 6) (c_drawnP hl n 5 _ _ (by split <;> omega) m C hm (by split <;> omega)) vl_X2_108 dX2_drawn_6 o_141 rfl rfl (Nat.le_of_ble_eq_true rfl) ⟨(Nat.le_of_ble_eq_true rfl), (Nat.le_of_ble_eq_true rfl)⟩ rfl rfl (Nat.le_of_ble_eq_true rfl) (Nat.le_of_ble_eq_true rfl) (fun r9 J_6 hq9 => ?_)
  obtain ⟨z_6, rfl, hz_6, m1, g1, h1⟩ := hq9
  exact tz_iret (pc := 9) (z := z_6) dX2_drawn_9 rfl (Nat.le_of_ble_eq_true rfl) (Nat.le_of_ble_eq_true rfl) ⟨Nat.le_refl _, Nat.le_add_right _ _⟩ ⟨_, rfl, (by omega), ⟨m1, g1, h1⟩⟩

