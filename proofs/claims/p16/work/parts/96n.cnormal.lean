/-! ===== normal of the class, exact ===== -/
theorem act_fail {X : List Nat} {J Jb Jo J' G : zJ} {n m m1 t z : Int} {R : Int → Int → Int} (c : CAL J G n R) (hI : CI J m) (hj : zcp (zup J 19 0 (J 6 12)) 19 61 0 0 61 = Jb) (g1 : GX X Jo Jb m m1) (hX : (X.all fun c => decide (c = 19 ∨ 140 ≤ c)) = true) (ht : t < 0) (s : t = z ∧ ((0 ≤ t ∧ zOf fkp J' Jo ∧ KX J' Jo) ∨ (t < 0 ∧ zOf (zbut [6, 16, 19, 62]) J' Jo ∧ J' 19 = zcp Jo 61 19 0 0 61 19 ∧ J' 6 12 = Jo 61 0))) : t = z ∧ CAL J' G n R := by
  obtain ⟨s0, s⟩ := s
  refine ⟨s0, ?_⟩
  have s' := s.resolve_left (fun q => by have := q.1; omega)
  have e := act_end (F := (zup G 164 21 1, 0)) (t := -3) (z := -3) c hI hj g1 hX (Or.inl ⟨rfl, by show ¬ (1 : Int) = 0; decide⟩) ⟨rfl, Or.inr ⟨by decide, s'.2⟩⟩
  rcases e with ⟨_, _, e⟩ | ⟨q, _⟩
  · exact e
  · exact absurd q (by show ¬ (1 : Int) = 0; decide)
/-- normal's end, by where the machine stops -/
def NRE (S : zJ) (n : Int) (R : Int → Int → Int) (c : NCf) (J' : zJ) (z : Int) : Prop := (0 ≤ c.2.2 ∧ z = c.2.2 ∧ CAL J' c.1.1 (psn n) (psh n R (S 165))) ∨ (c.2.2 = -3 ∧ z = -3 ∧ CAL J' S n R) ∨ (c.2.2 = -4 ∧ z = -2 ∧ CAL J' S n R)
theorem nrm_end {X : List Nat} {J Jb Jo J' G : zJ} {n m m1 t z : Int} {R : Int → Int → Int} (c : CAL J G n R) (hI : CI J m) (hj : zcp (zup J 19 0 (J 6 12)) 19 61 0 0 61 = Jb) (g1 : GX X Jo Jb m m1) (hX : (X.all fun c => decide (c = 19 ∨ 140 ≤ c)) = true) {cf : NCf} (q : cf.2.1 = [] → NCG m1 Jo t cf) (s : t = z ∧ ((0 ≤ t ∧ zOf fkp J' Jo ∧ KX J' Jo) ∨ (t < 0 ∧ zOf (zbut [6, 16, 19, 62]) J' Jo ∧ J' 19 = zcp Jo 61 19 0 0 61 19 ∧ J' 6 12 = Jo 61 0))) : cf.2.1 = [] → NRE G n R cf J' z := fun f => by
  rcases q f with ⟨a, b, N⟩ | ⟨_, a | a⟩
  · rcases a with ⟨_, F, K, e, _⟩ | a
    · rw [f] at e; cases e
    · have w := act_end (F := (cf.1.1, cf.2.2)) c hI hj g1 hX (Or.inr ⟨by omega, N.1.2.2.1, N.1.1, b, N.1.2.1⟩) s
      rcases w with ⟨w1, _⟩ | ⟨_, w2, w3⟩
      · exact absurd N.1.2.2.1 w1
      · exact Or.inl ⟨a, w2, w3⟩
  · obtain ⟨e, w⟩ := act_fail c hI hj g1 hX (by omega) s
    exact Or.inr (Or.inl ⟨a.1, by omega, w⟩)
  · obtain ⟨e, w⟩ := act_fail c hI hj g1 hX (by omega) s
    exact Or.inr (Or.inr ⟨a.1, by omega, w⟩)
set_option maxHeartbeats 4000000 in
set_option maxRecDepth 100000 in
theorem v_normal {l : Launch} {G : tb_G} (hl : l.stackTraces = false) (n : Nat) (J : zJ) (t : Int) (hr_t : -2147483648 ≤ t ∧ t < 2147483648) (m : Int) (S : zJ) (pn : Int) (RR : Int → Int → Int) (hI : CI J m) (h9 : J 145 10 < 1000000000) (cc : CAL J S pn RR) (h21 : S 164 21 = 0) (hr9 : S 165 40 ≤ S 165 39) : tz_Ok l G M_X11_normal 12 0 0 [.ref 0, zi t] n J (zqi (fun z J' => CQ J' J ∧ (((0 ≤ t ∧ t < J 6 12) ∧ ((nFN S 0 t).2.1 = [] → NRE S pn RR (nFN S 0 t) J' z)) ∨ (¬ (0 ≤ t ∧ t < J 6 12) ∧ z = -1 ∧ CAL J' S pn RR)))) zN := by
  refine tz_Ok.of hl (by decide +kernel) rfl (tb_c1 rfl) (Nat.le_of_ble_eq_true rfl) ?_
  show tz_At l G M_X11_normal (tb_rm 12 0 0) none (tb_ZM G 0 0 (zQ n 0 (zqi (fun z J' => CQ J' J ∧ (((0 ≤ t ∧ t < J 6 12) ∧ ((nFN S 0 t).2.1 = [] → NRE S pn RR (nFN S 0 t) J' z)) ∨ (¬ (0 ≤ t ∧ t < J 6 12) ∧ z = -1 ∧ CAL J' S pn RR))))) (zX n 0 zN)) 0 0 n J 0 [some (.ref 0), some (zi t)] []
  have hC := hI.1.1.1
  have hm := hI.1.1.2.1
  have hL := hI.1.1.2.2
  have hb := hC.told
  have wb := cc.2.1.b hL
  refine tz_aload_n (pc := 0) dX11_normal_0 rfl rfl ?_
  refine tz_fR (pc := 1) dX11_normal_1 fl_X11_29 r_0_1 ?_
  refine tz_fR (pc := 4) dX11_normal_4 fl_X11_49 r_5_0 ?_
  refine tz_iload_n (pc := 7) dX11_normal_7 rfl rfl ?_
  refine tz_cV (pc := 8) (c_has hl n _ _ (by omega)) vl_X11_304 dX11_normal_8 o_6 rfl rfl (Nat.le_of_ble_eq_true rfl) ⟨(Nat.le_of_ble_eq_true rfl), (Nat.le_of_ble_eq_true rfl)⟩ rfl rfl (Nat.le_of_ble_eq_true rfl) (Nat.le_of_ble_eq_true rfl) (fun r9 J_8 hq9 => ?_)
  obtain ⟨z_8, rfl, hz_8, rfl, rfl⟩ := hq9
  by_cases hw_11 : 0 ≤ t ∧ t < J 6 12
  · rw [show (if 0 ≤ t ∧ t < J 6 12 then 1 else 0 : Int) = 1 from if_pos hw_11]
    refine tz_if_neT (pc := 11) (tgt := 21) (by decide) dX11_normal_11 (by decide) (by decide) ?_
    refine tz_aload_n (pc := 21) dX11_normal_21 rfl rfl ?_
    refine tz_fR (pc := 22) dX11_normal_22 fl_X11_29 r_0_1 ?_
    refine tz_cV (pc := 25) (c_begin hl n _) vl_X11_287 dX11_normal_25 o_5 rfl rfl (Nat.le_of_ble_eq_true rfl) ⟨(Nat.le_of_ble_eq_true rfl), (Nat.le_of_ble_eq_true rfl)⟩ rfl rfl (Nat.le_of_ble_eq_true rfl) (Nat.le_of_ble_eq_true rfl) (fun r9 Jb hq9 => ?_)
    obtain ⟨rfl, hj⟩ := hq9
    have hb9 : zOf (zbut [19, 61]) Jb J := by rw [← hj]; exact zOf.cp rfl (zOf.up rfl zOf.rf)
    have hb19 : ∀ k, ¬ k = 0 → Jb 19 k = J 19 k := fun k hk => by rw [← hj, zcp_nc (by decide), zup_ne hk]
    have a0 : AC Jb m m := by rw [← hj]; exact hI.begin
    have hb6 := a0.1.1.2.1
    obtain ⟨cb, kb, lb⟩ := cc.begin hI hj
    refine tz_aload_n (pc := 28) dX11_normal_28 rfl rfl ?_
    refine tz_fR (pc := 29) dX11_normal_29 fl_X11_90 r_0_10 ?_
    refine tz_cV (pc := 32) (c_allow hl n _) vl_X11_344 dX11_normal_32 o_158 rfl rfl (Nat.le_of_ble_eq_true rfl) ⟨(Nat.le_of_ble_eq_true rfl), (Nat.le_of_ble_eq_true rfl)⟩ rfl rfl (Nat.le_of_ble_eq_true rfl) (Nat.le_of_ble_eq_true rfl) (fun r9 Jc hq9 => ?_)
    obtain ⟨rfl, hj2⟩ := hq9
    have hc9 : zOf (zbut [158]) Jc Jb := by rw [← hj2]; exact zOf.up rfl zOf.rf
    have a2 : AC Jc m m := a0.gx0 (X := [158]) ((GX.rf a0.1.1.1 hb6).off rfl hc9) rfl
    refine tz_aload_n (pc := 35) dX11_normal_35 rfl rfl ?_
    refine tz_aload_n (pc := 36) dX11_normal_36 rfl rfl ?_
    refine tz_fR (pc := 37) dX11_normal_37 fl_X11_90 r_0_10 ?_
    refine tz_iload_n (pc := 40) dX11_normal_40 rfl rfl ?_
    have e9 : Jc 158 8 = 100 := by rw [← hj2]; exact zup_at
    refine tz_cV (pc := 41) (x_cnormal hl n _ _ (by omega) m S 0 a2.1.1.1 a2.1.1.2.1 a2.1.1.2.2 (by omega) (cb.1.f (fun c hc => hc9 c (by simp [zbut]; omega))) (by rw [hc9 19 rfl]; exact cb.2.1) h21 hr9 (by omega)) vl_X11_347 dX11_normal_41 o_158 rfl rfl (Nat.le_of_ble_eq_true rfl) ⟨(Nat.le_of_ble_eq_true rfl), (Nat.le_of_ble_eq_true rfl)⟩ rfl rfl (Nat.le_of_ble_eq_true rfl) (Nat.le_of_ble_eq_true rfl) (fun r9 J_41 hq9 => ?_)
    obtain ⟨z_41, rfl, hz_41, m1, g1, l1, h1, x1⟩ := hq9
    have a1 := a2.gx g1 rfl l1 (a2.1.2.1.of (g1.2.2.2.2 145 rfl) (g1.2.2.2.2 146 rfl))
    have gg : zOf (zbut [6, 7, 8, 9, 10, 11, 12, 13, 14, 15, 16, 17, 19, 140, 158, 159, 160, 161]) J_41 Jb := g1.2.2.2.2.tr (hc9.mono (zbut_sub (fun c hc => by simp at hc ⊢; omega)))
    have gx : GX [19, 140, 158, 159, 160, 161] J_41 Jb m m1 := GX.tr ((GX.rf a0.1.1.1 hb6).off rfl (hc9.mono (zbut_sub (fun c hc => by simp at hc ⊢; omega)))) g1
    refine tz_cV (pc := 44) (x_settled hl n _ _ (by omega) m m1 a1) vl_X11_293 dX11_normal_44 o_0 rfl rfl (Nat.le_of_ble_eq_true rfl) ⟨(Nat.le_of_ble_eq_true rfl), (Nat.le_of_ble_eq_true rfl)⟩ rfl rfl (Nat.le_of_ble_eq_true rfl) (Nat.le_of_ble_eq_true rfl) (fun r9 J_44 hq9 => ?_)
    obtain ⟨z_44, rfl, hz_44, s9, s8⟩ := hq9
    exact tz_iret (pc := 47) (z := z_44) dX11_normal_47 rfl (Nat.le_of_ble_eq_true rfl) (Nat.le_of_ble_eq_true rfl) ⟨Nat.le_refl _, Nat.le_add_right _ _⟩ ⟨_, rfl, (by omega), ⟨(s9.cq (by rw [gg 145 rfl, hb9 145 rfl]; omega) ((gg 0 rfl).trans (hb9 0 rfl)) ((gg.mono (fun c hc => by have := of_decide_eq_true hc; simp [zbut]; omega)).tr (hb9.mono (fun c hc => by have := of_decide_eq_true hc; simp [zbut]; omega)))), Or.inl ⟨by omega, nrm_end cc hI hj gx rfl x1 s8⟩⟩⟩
  · rw [show (if 0 ≤ t ∧ t < J 6 12 then 1 else 0 : Int) = 0 from if_neg hw_11]
    refine tz_if_neF (pc := 11) (tgt := 21) (by decide) dX11_normal_11 (by decide) (by decide) ?_
    refine tz_aload_n (pc := 14) dX11_normal_14 rfl rfl ?_
    refine tz_iconst (pc := 15) dX11_normal_15 ?_
    refine tz_iconst (pc := 16) dX11_normal_16 ?_
    refine tz_cV (pc := 17) (c_refused hl n _ _ _ (by decide) (by omega) (by decide)) vl_X11_284 dX11_normal_17 o_0 rfl rfl (Nat.le_of_ble_eq_true rfl) ⟨(Nat.le_of_ble_eq_true rfl), (Nat.le_of_ble_eq_true rfl)⟩ rfl rfl (Nat.le_of_ble_eq_true rfl) (Nat.le_of_ble_eq_true rfl) (fun r9 J_17 hq9 => ?_)
    obtain ⟨z_17, rfl, hz_17, f9, rfl⟩ := hq9
    exact tz_iret (pc := 20) (z := (-1)) dX11_normal_20 rfl (Nat.le_of_ble_eq_true rfl) (Nat.le_of_ble_eq_true rfl) ⟨Nat.le_refl _, Nat.le_add_right _ _⟩ ⟨_, rfl, (by decide), ⟨(SQ.cq ⟨⟨m, hI.st f9⟩, f9 145 rfl, f9 0 rfl, (f9.mono (fun c hc => by have := of_decide_eq_true hc; simp [zbut]; omega))⟩ (by omega) rfl zOf.rf), Or.inr ⟨by omega, rfl, cc.st hI f9⟩⟩⟩

