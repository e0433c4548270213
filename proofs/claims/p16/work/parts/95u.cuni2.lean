/-! ===== unify of the class, the call ===== -/
theorem ub_bt {J S : zJ} {m s t : Int} (E : A0 J S) (C : CT J m) (hm : J 6 12 = m) (hs : 0 ≤ s ∧ s < m) (ht : 0 ≤ t ∧ t < m) : ∀ v, 0 ≤ v → v < 8 → (bt (zor (J 13 s) (J 13 t)) v ↔ Occ S 0 0 s v ∨ Occ S 0 0 t v) := fun v a b => by
  rw [bt_or, E.oc C hm hs ⟨a, b⟩, E.oc C hm ht ⟨a, b⟩]
theorem ub_nd {J S : zJ} {m s t : Int} (E : A0 J S) (C : CT J m) (hm : J 6 12 = m) (hs : 0 ≤ s ∧ s < m) (ht : 0 ≤ t ∧ t < m) : ∀ v, 0 ≤ v → v < 8 → bt (zor (J 13 s) (J 13 t)) v → ∃ u, (0 ≤ u ∧ u < m) ∧ J 7 u = -1 - v := fun v a b q => by
  have w := E.tcl C hm
  have x : ∃ u, (0 ≤ u ∧ u < m) ∧ S 166 (0 + u) = -1 - v := ((ub_bt E C hm hs ht v a b).1 q).elim (fun o => o.nd w hs) (fun o => o.nd w ht)
  obtain ⟨u, hu, e⟩ := x
  exact ⟨u, hu, by rw [← (E.tm C hm hu).1]; exact e⟩
theorem uni_slv {J1 Jb : zJ} {m : Int} {ρ : Int → Int} (U : UFp (VN 400 m) (upV J1)) (no : ∀ y, VN 400 m y → uoV J1 y = -1) (f : zOf (zbut [19, 61]) Jb J1) : SLV m (tp (upV J1)) (usV J1) (ulV J1) ρ Jb m ∧ nNO m Jb := by
  have e5 := f 145 rfl
  have e6 := f 146 rfl
  have p : upV Jb = upV J1 := funext fun x => by unfold upV; rw [e5, e6, f 147 rfl]
  have s : usV Jb = usV J1 := funext fun x => by unfold usV; rw [e5, e6, f 148 rfl, f 7 rfl]
  have v : ulV Jb = ulV J1 := funext fun x => by unfold ulV; rw [e5, e6, f 149 rfl, f 7 rfl]
  have u : uoV Jb = uoV J1 := funext fun x => by unfold uoV; rw [e5, e6, f 150 rfl]
  refine ⟨⟨by rw [p]; exact U, fun x _ => by rw [p, s, v]; exact ⟨rfl, rfl, rfl⟩, fun x hx _ w => ?_⟩, fun x hx => ?_⟩
  · rw [u, no x hx] at w; omega
  · rw [u, no x hx]; omega
theorem uni_no {S : zJ} {m s t z : Int} {p sh lv : Int → Int} (q : UPO 400 m 0 0 S s t p sh lv z) (h : ¬ z = 1) : (¬ UEX S m s t ∧ z = 0) ∨ (UEX S m s t ∧ ¬ NRQ S m s t ∧ z = 2) := by
  rcases q with ⟨a, b⟩ | ⟨a, _, _, _, b⟩
  · exact Or.inl ⟨b, a⟩
  · rcases b with ⟨b, _⟩ | ⟨b, c⟩
    · exact absurd b h
    · exact Or.inr ⟨a, c, b⟩
theorem uni_yes {S : zJ} {m s t z : Int} {p sh lv : Int → Int} (q : UPO 400 m 0 0 S s t p sh lv z) (h : z = 1) : UEX S m s t ∧ NRQ S m s t ∧ UFp (VN 400 m) p ∧ SHp (VN 400 m) (hdN S 0) p sh lv ∧ ∀ u v, VN 400 m u → VN 400 m v → (tp p u = tp p v ↔ LCu (VN 400 m) (hdN S 0) (arN S 0 0) (agN S 0) s t u v) := by
  rcases q with ⟨a, b⟩ | ⟨a, U, H, K, b⟩
  · omega
  · rcases b with ⟨_, c⟩ | ⟨b, _⟩
    · exact ⟨a, c, U, H, K⟩
    · omega
set_option maxHeartbeats 4000000 in
set_option maxRecDepth 100000 in
theorem v_unify {l : Launch} {G : tb_G} (hl : l.stackTraces = false) (n : Nat) (J : zJ) (s : Int) (t : Int) (hr_s : -2147483648 ≤ s ∧ s < 2147483648) (hr_t : -2147483648 ≤ t ∧ t < 2147483648) (m : Int) (S : zJ) (pn : Int) (RR : Int → Int → Int) (hI : CI J m) (h9 : J 145 10 < 1000000000) (cc : CAL J S pn RR) (h21 : S 164 21 = 0) : tz_Ok l G M_X11_unify 23 0 0 [.ref 0, zi s, zi t] n J (zqi (fun z J' => CQ J' J ∧ ((((0 ≤ s ∧ s < J 6 12) ∧ (0 ≤ t ∧ t < J 6 12)) ∧ UEX S m s t ∧ NRQ S m s t ∧ ∃ ρ bs, GSOL S m s t ρ ∧ (∀ v, 0 ≤ v → v < 8 → (bt bs v ↔ Occ S 0 0 s v ∨ Occ S 0 0 t v)) ∧ ED S pn RR (bnO ρ bs S 8, 1) J' z) ∨ (((0 ≤ s ∧ s < J 6 12) ∧ (0 ≤ t ∧ t < J 6 12)) ∧ ¬ UEX S m s t ∧ z = 0 ∧ CAL J' S pn RR) ∨ (((0 ≤ s ∧ s < J 6 12) ∧ (0 ≤ t ∧ t < J 6 12)) ∧ UEX S m s t ∧ ¬ NRQ S m s t ∧ z = 2 ∧ CAL J' S pn RR) ∨ (¬ ((0 ≤ s ∧ s < J 6 12) ∧ (0 ≤ t ∧ t < J 6 12)) ∧ z = -1 ∧ CAL J' S pn RR)))) zN := by
  refine tz_Ok.of hl (by decide +kernel) rfl (tb_c1 rfl) (Nat.le_of_ble_eq_true rfl) ?_
  show tz_At l G M_X11_unify (tb_rm 23 0 0) none (tb_ZM G 0 0 (zQ n 0 (zqi (fun z J' => CQ J' J ∧ ((((0 ≤ s ∧ s < J 6 12) ∧ (0 ≤ t ∧ t < J 6 12)) ∧ UEX S m s t ∧ NRQ S m s t ∧ ∃ ρ bs, GSOL S m s t ρ ∧ (∀ v, 0 ≤ v → v < 8 → (bt bs v ↔ Occ S 0 0 s v ∨ Occ S 0 0 t v)) ∧ ED S pn RR (bnO ρ bs S 8, 1) J' z) ∨ (((0 ≤ s ∧ s < J 6 12) ∧ (0 ≤ t ∧ t < J 6 12)) ∧ ¬ UEX S m s t ∧ z = 0 ∧ CAL J' S pn RR) ∨ (((0 ≤ s ∧ s < J 6 12) ∧ (0 ≤ t ∧ t < J 6 12)) ∧ UEX S m s t ∧ ¬ NRQ S m s t ∧ z = 2 ∧ CAL J' S pn RR) ∨ (¬ ((0 ≤ s ∧ s < J 6 12) ∧ (0 ≤ t ∧ t < J 6 12)) ∧ z = -1 ∧ CAL J' S pn RR))))) (zX n 0 zN)) 0 0 n J 0 [some (.ref 0), some (zi s), some (zi t), none, none] []
  have hC := hI.1.1.1
  have hm := hI.1.1.2.1
  have hL := hI.1.1.2.2
  have hb := hC.told
  have wb := cc.2.1.b hL
  refine tz_aload_n (pc := 0) dX11_unify_0 rfl rfl ?_
  refine tz_fR (pc := 1) dX11_unify_1 fl_X11_29 r_0_1 ?_
  refine tz_fR (pc := 4) dX11_unify_4 fl_X11_49 r_5_0 ?_
  refine tz_iload_n (pc := 7) dX11_unify_7 rfl rfl ?_
  refine tz_cV (pc := 8) (c_has hl n _ _ (by omega)) vl_X11_304 dX11_unify_8 o_6 rfl rfl (Nat.le_of_ble_eq_true rfl) ⟨(Nat.le_of_ble_eq_true rfl), (Nat.le_of_ble_eq_true rfl)⟩ rfl rfl (Nat.le_of_ble_eq_true rfl) (Nat.le_of_ble_eq_true rfl) (fun r9 J_8 hq9 => ?_)
  obtain ⟨z_8, rfl, hz_8, rfl, rfl⟩ := hq9
  by_cases hw_11 : 0 ≤ s ∧ s < J 6 12
  · rw [show (if 0 ≤ s ∧ s < J 6 12 then 1 else 0 : Int) = 1 from if_pos hw_11]
    refine tz_if_eqF (pc := 11) (tgt := 28) (by decide) dX11_unify_11 (by decide) (by decide) ?_
    refine tz_aload_n (pc := 14) dX11_unify_14 rfl rfl ?_
    refine tz_fR (pc := 15) dX11_unify_15 fl_X11_29 r_0_1 ?_
    refine tz_fR (pc := 18) dX11_unify_18 fl_X11_49 r_5_0 ?_
    refine tz_iload_n (pc := 21) dX11_unify_21 rfl rfl ?_
    refine tz_cV (pc := 22) (c_has hl n _ _ (by omega)) vl_X11_304 dX11_unify_22 o_6 rfl rfl (Nat.le_of_ble_eq_true rfl) ⟨(Nat.le_of_ble_eq_true rfl), (Nat.le_of_ble_eq_true rfl)⟩ rfl rfl (Nat.le_of_ble_eq_true rfl) (Nat.le_of_ble_eq_true rfl) (fun r9 J_22 hq9 => ?_)
    obtain ⟨z_22, rfl, hz_22, rfl, rfl⟩ := hq9
    by_cases hw_25 : 0 ≤ t ∧ t < J 6 12
    · rw [show (if 0 ≤ t ∧ t < J 6 12 then 1 else 0 : Int) = 1 from if_pos hw_25]
      refine tz_if_neT (pc := 25) (tgt := 35) (by decide) dX11_unify_25 (by decide) (by decide) ?_
      refine tz_aload_n (pc := 35) dX11_unify_35 rfl rfl ?_
      refine tz_fR (pc := 36) dX11_unify_36 fl_X11_69 r_0_8 ?_
      refine tz_iload_n (pc := 39) dX11_unify_39 rfl rfl ?_
      refine tz_iload_n (pc := 40) dX11_unify_40 rfl rfl ?_
      refine tz_iconst (pc := 41) dX11_unify_41 ?_
      refine tz_cV (pc := 42) (u_wayOf hl n _ _ _ _ (by omega) (by omega) (by decide) m 400 S hC hm cc.1 (by omega) (by omega) (Or.inl rfl) hI.1.2.1 (by omega) (Or.inl ⟨rfl, rfl⟩)) vl_X11_319 dX11_unify_42 o_145 rfl rfl (Nat.le_of_ble_eq_true rfl) ⟨(Nat.le_of_ble_eq_true rfl), (Nat.le_of_ble_eq_true rfl)⟩ rfl rfl (Nat.le_of_ble_eq_true rfl) (Nat.le_of_ble_eq_true rfl) (fun r9 J1 hq9 => ?_)
      obtain ⟨zc, rfl, hz_42, ⟨q1, q2, q3, q4⟩, qu, qo⟩ := hq9
      rw [Int.add_zero] at qu
      have hn9 := hI.1.2.1.1
      have hw1 := hI.uni q4 rfl (q2.rest (by omega))
      have hI1 := hw1.1
      have cc1 := cc.wk hI q4 rfl
      refine tz_istore_n (pc := 45) (L2 := [_, _, _, _, _]) dX11_unify_45 rfl (by decide) rfl ?_
      refine tz_iload_n (pc := 46) dX11_unify_46 rfl rfl ?_
      refine tz_iconst (pc := 47) dX11_unify_47 ?_
      refine tz_icmp_eq (pc := 48) (tgt := 58) dX11_unify_48 (by decide) (by omega) (by decide) (fun h_48 => ?_) (fun h_48 => ?_)
      · refine tz_aload_n (pc := 58) dX11_unify_58 rfl rfl ?_
        refine tz_fR (pc := 59) dX11_unify_59 fl_X11_29 r_0_1 ?_
        refine tz_cV (pc := 62) (c_begin hl n _) vl_X11_287 dX11_unify_62 o_5 rfl rfl (Nat.le_of_ble_eq_true rfl) ⟨(Nat.le_of_ble_eq_true rfl), (Nat.le_of_ble_eq_true rfl)⟩ rfl rfl (Nat.le_of_ble_eq_true rfl) (Nat.le_of_ble_eq_true rfl) (fun r9 Jb hq9 => ?_)
        obtain ⟨rfl, hj⟩ := hq9
        have hb9 : zOf (zbut [19, 61]) Jb J1 := by rw [← hj]; exact zOf.cp rfl (zOf.up rfl zOf.rf)
        have hb19 : ∀ k, ¬ k = 0 → Jb 19 k = J1 19 k := fun k hk => by rw [← hj, zcp_nc (by decide), zup_ne hk]
        have a0 : AC Jb m m := by rw [← hj]; exact hI1.begin
        have hb6 := a0.1.1.2.1
        obtain ⟨cb, kb, lb⟩ := cc1.begin hI1 hj
        refine tz_aload_n (pc := 65) dX11_unify_65 rfl rfl ?_
        refine tz_fR (pc := 66) dX11_unify_66 fl_X11_29 r_0_1 ?_
        refine tz_fR (pc := 69) dX11_unify_69 fl_X11_49 r_5_0 ?_
        refine tz_fR (pc := 72) dX11_unify_72 fl_X11_235 r_6_7 ?_
        refine tz_iload_n (pc := 75) dX11_unify_75 rfl rfl ?_
        refine tz_aL (pc := 76) (z := s) (v := (J 13 s)) dX11_unify_76 a_13 rfl (by omega) (Eq.trans (congrFun (hb9 13 rfl) s) (Eq.trans (congrFun (q4 13 rfl) s) rfl)) (fun r_76 => ?_)
        refine tz_aload_n (pc := 77) dX11_unify_77 rfl rfl ?_
        refine tz_fR (pc := 78) dX11_unify_78 fl_X11_29 r_0_1 ?_
        refine tz_fR (pc := 81) dX11_unify_81 fl_X11_49 r_5_0 ?_
        refine tz_fR (pc := 84) dX11_unify_84 fl_X11_235 r_6_7 ?_
        refine tz_iload_n (pc := 87) dX11_unify_87 rfl rfl ?_
        refine tz_aL (pc := 88) (z := t) (v := (J 13 t)) dX11_unify_88 a_13 rfl (by omega) (Eq.trans (congrFun (hb9 13 rfl) t) (Eq.trans (congrFun (q4 13 rfl) t) rfl)) (fun r_88 => ?_)
        refine tz_ior (pc := 89) (v := zor (J 13 s) (J 13 t)) dX11_unify_89 rfl ?_
        refine tz_istore (pc := 90) (L2 := [_, _, _, _, _]) dX11_unify_90 (by decide) rfl ?_
        refine tz_aload_n (pc := 92) dX11_unify_92 rfl rfl ?_
        refine tz_aload_n (pc := 93) dX11_unify_93 rfl rfl ?_
        refine tz_fR (pc := 94) dX11_unify_94 fl_X11_69 r_0_8 ?_
        refine tz_iload (pc := 97) dX11_unify_97 rfl ?_
        refine tz_aload_n (pc := 99) dX11_unify_99 rfl rfl ?_
        refine tz_fR (pc := 100) dX11_unify_100 fl_X11_29 r_0_1 ?_
        refine tz_fR (pc := 103) dX11_unify_103 fl_X11_156 r_5_1 ?_
        refine tz_fR (pc := 106) dX11_unify_106 fl_X11_167 r_18_0 ?_
        refine tz_bipush (pc := 109) dX11_unify_109 (by decide) ?_
        obtain ⟨ue9, nr9, U9, S9, K9⟩ := uni_yes qu (by omega)
        obtain ⟨ρ9, R9, q9⟩ := sol_mk U9 S9
        have C9 := cro_mk cb.1 a0.1.1.1 a0.1.1.2.1 S9 R9 U9 q9
        have V9 := uni_slv (ρ := ρ9) U9 (qo (by omega)) hb9
        have e13 : Jb 13 = J 13 := (hb9 13 rfl).trans (q4 13 rfl)
        have bt9 := ub_bt (s := s) (t := t) cb.1 a0.1.1.1 a0.1.1.2.1 (by omega) (by omega)
        have nd9 := ub_nd (s := s) (t := t) cb.1 a0.1.1.1 a0.1.1.2.1 (by omega) (by omega)
        rw [e13] at bt9 nd9
        refine tz_cV (pc := 111) (u_bindAll hl n _ _ (zor_rg _ _) (tp (upV J1)) (usV J1) (ulV J1) ρ9 S m a0.1.1.1 a0.1.1.2.1 (q2.of (Int.le_refl _) (congrFun (hb9 145 rfl) 10) (fun c hc => hb9 c (by simp [zbut]; omega))) a0.1.1.2.2 (by rw [hb9 145 rfl]; omega) h21 cb.1 cb.2.1 V9.1 C9 V9.2 nd9) vl_X11_323 dX11_unify_111 o_145 rfl rfl (Nat.le_of_ble_eq_true rfl) ⟨(Nat.le_of_ble_eq_true rfl), (Nat.le_of_ble_eq_true rfl)⟩ rfl rfl (Nat.le_of_ble_eq_true rfl) (Nat.le_of_ble_eq_true rfl) (fun r9 J_111 hq9 => ?_)
        obtain ⟨z_111, rfl, hz_111, m1, g1, r1, l1, h1, o1⟩ := hq9
        have a1 := a0.gx g1 rfl l1 r1
        refine tz_cV (pc := 114) (x_settled hl n _ _ (by omega) m m1 a1) vl_X11_293 dX11_unify_114 o_0 rfl rfl (Nat.le_of_ble_eq_true rfl) ⟨(Nat.le_of_ble_eq_true rfl), (Nat.le_of_ble_eq_true rfl)⟩ rfl rfl (Nat.le_of_ble_eq_true rfl) (Nat.le_of_ble_eq_true rfl) (fun r9 J_114 hq9 => ?_)
        obtain ⟨z_114, rfl, hz_114, s9, s8⟩ := hq9
        exact tz_iret (pc := 117) (z := z_114) dX11_unify_117 rfl (Nat.le_of_ble_eq_true rfl) (Nat.le_of_ble_eq_true rfl) ⟨Nat.le_refl _, Nat.le_add_right _ _⟩ ⟨_, rfl, (by omega), ⟨(s9.cq (by rw [g1.2.2.2.2 145 rfl, hb9 145 rfl]; omega) ((g1.2.2.2.2 0 rfl).trans ((hb9 0 rfl).trans hw1.2.1)) ((g1.2.2.2.2.mono (fun c hc => by have := of_decide_eq_true hc; simp [zbut]; omega)).tr ((hb9.mono (fun c hc => by have := of_decide_eq_true hc; simp [zbut]; omega)).tr hw1.2.2))), Or.inl ⟨by omega, ue9, nr9, ρ9, _, ⟨_, _, _, U9, S9, K9, R9⟩, bt9, act_end (F := (bnO ρ9 _ S 8, 1)) cc1 hI1 hj g1 rfl o1 s8⟩⟩⟩
      · refine tz_aload_n (pc := 51) dX11_unify_51 rfl rfl ?_
        refine tz_iconst (pc := 52) dX11_unify_52 ?_
        refine tz_iload_n (pc := 53) dX11_unify_53 rfl rfl ?_
        refine tz_cV (pc := 54) (c_refused hl n _ _ _ (by decide) (by omega) (by decide)) vl_X11_284 dX11_unify_54 o_0 rfl rfl (Nat.le_of_ble_eq_true rfl) ⟨(Nat.le_of_ble_eq_true rfl), (Nat.le_of_ble_eq_true rfl)⟩ rfl rfl (Nat.le_of_ble_eq_true rfl) (Nat.le_of_ble_eq_true rfl) (fun r9 J_54 hq9 => ?_)
        obtain ⟨z_54, rfl, hz_54, f9, rfl⟩ := hq9
        exact tz_iret (pc := 57) (z := zc) dX11_unify_57 rfl (Nat.le_of_ble_eq_true rfl) (Nat.le_of_ble_eq_true rfl) ⟨Nat.le_refl _, Nat.le_add_right _ _⟩ ⟨_, rfl, (by omega), ⟨(SQ.cq ⟨⟨m, hI1.st f9⟩, f9 145 rfl, f9 0 rfl, (f9.mono (fun c hc => by have := of_decide_eq_true hc; simp [zbut]; omega))⟩ (by omega) hw1.2.1 hw1.2.2), Or.inr ((uni_no qu (by omega)).elim (fun q => Or.inl ⟨by omega, q.1, q.2, cc1.st hI1 f9⟩) (fun q => Or.inr (Or.inl ⟨by omega, q.1, q.2.1, q.2.2, cc1.st hI1 f9⟩)))⟩⟩
    · rw [show (if 0 ≤ t ∧ t < J 6 12 then 1 else 0 : Int) = 0 from if_neg hw_25]
      refine tz_if_neF (pc := 25) (tgt := 35) (by decide) dX11_unify_25 (by decide) (by decide) ?_
      refine tz_aload_n (pc := 28) dX11_unify_28 rfl rfl ?_
      refine tz_iconst (pc := 29) dX11_unify_29 ?_
      refine tz_iconst (pc := 30) dX11_unify_30 ?_
      refine tz_cV (pc := 31) (c_refused hl n _ _ _ (by decide) (by omega) (by decide)) vl_X11_284 dX11_unify_31 o_0 rfl rfl (Nat.le_of_ble_eq_true rfl) ⟨(Nat.le_of_ble_eq_true rfl), (Nat.le_of_ble_eq_true rfl)⟩ rfl rfl (Nat.le_of_ble_eq_true rfl) (Nat.le_of_ble_eq_true rfl) (fun r9 J_31 hq9 => ?_)
      obtain ⟨z_31, rfl, hz_31, f9, rfl⟩ := hq9
      exact tz_iret (pc := 34) (z := (-1)) dX11_unify_34 rfl (Nat.le_of_ble_eq_true rfl) (Nat.le_of_ble_eq_true rfl) ⟨Nat.le_refl _, Nat.le_add_right _ _⟩ ⟨_, rfl, (by decide), ⟨(SQ.cq ⟨⟨m, hI.st f9⟩, f9 145 rfl, f9 0 rfl, (f9.mono (fun c hc => by have := of_decide_eq_true hc; simp [zbut]; omega))⟩ (by omega) rfl zOf.rf), Or.inr (Or.inr (Or.inr ⟨by omega, rfl, cc.st hI f9⟩))⟩⟩
  · rw [show (if 0 ≤ s ∧ s < J 6 12 then 1 else 0 : Int) = 0 from if_neg hw_11]
    refine tz_if_eqT (pc := 11) (tgt := 28) (by decide) dX11_unify_11 (by decide) (by decide) ?_
    refine tz_aload_n (pc := 28) dX11_unify_28 rfl rfl ?_
    refine tz_iconst (pc := 29) dX11_unify_29 ?_
    refine tz_iconst (pc := 30) dX11_unify_30 ?_
    refine tz_cV (pc := 31) (c_refused hl n _ _ _ (by decide) (by omega) (by decide)) vl_X11_284 dX11_unify_31 o_0 rfl rfl (Nat.le_of_ble_eq_true rfl) ⟨(Nat.le_of_ble_eq_true rfl), (Nat.le_of_ble_eq_true rfl)⟩ rfl rfl (Nat.le_of_ble_eq_true rfl) (Nat.le_of_ble_eq_true rfl) (fun r9 J_31 hq9 => ?_)
    obtain ⟨z_31, rfl, hz_31, f9, rfl⟩ := hq9
    exact tz_iret (pc := 34) (z := (-1)) dX11_unify_34 rfl (Nat.le_of_ble_eq_true rfl) (Nat.le_of_ble_eq_true rfl) ⟨Nat.le_refl _, Nat.le_add_right _ _⟩ ⟨_, rfl, (by decide), ⟨(SQ.cq ⟨⟨m, hI.st f9⟩, f9 145 rfl, f9 0 rfl, (f9.mono (fun c hc => by have := of_decide_eq_true hc; simp [zbut]; omega))⟩ (by omega) rfl zOf.rf), Or.inr (Or.inr (Or.inr ⟨by omega, rfl, cc.st hI f9⟩))⟩⟩

