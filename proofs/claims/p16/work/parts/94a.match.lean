/-! ===== match, exact ===== -/
/-- the bindings of a row are those of a match -/
def zmt (S : zJ) (τ : Int → Int) : zJ := fun c => if c = 165 then (fun k => if 1 ≤ k ∧ k < 9 then τ (k - 1) + 1 else S 165 k) else S c
noncomputable def omt (S : zJ) (s t : Int) : Bool × (Int → Int) := mmt S 0 0 (fun _ => -1) s t
theorem RW.mt {f h τ τ' : Int → Int} (w : RW f h) (b : (0 ≤ h 9 ∧ h 9 ≤ 8) ∧ (0 ≤ h 26 ∧ h 26 ≤ 12) ∧ (0 ≤ h 40 ∧ h 40 ≤ 9)) (e : sgA τ τ') : RW (fun k => if 7 ≤ k ∧ k < 7 + 8 then τ (0 + (k - 7)) else f k) (fun k => if 1 ≤ k ∧ k < 9 then τ' (k - 1) + 1 else h k) := by
  obtain ⟨⟨a1, a2, a3⟩, ⟨b1, b2⟩, ⟨c1, c2⟩, ⟨d1, d2⟩, v⟩ := w
  refine ⟨⟨a1, a2, a3⟩, ⟨b1, fun i p q => ?_⟩, ⟨c1, fun i p q => ?_⟩, ⟨d1, fun i p q => ?_⟩, fun i p q => ?_⟩
  · have q : i < h 9 := q
    dsimp only
    rw [if_neg (by omega), if_neg (by omega), if_neg (by omega), if_neg (by omega)]; exact b2 i p q
  · have q : i < h 26 := q
    dsimp only
    rw [if_neg (by omega), if_neg (by omega)]; exact c2 i p q
  · have q : i < h 40 := q
    dsimp only
    rw [if_neg (by omega), if_neg (by omega), if_neg (by omega), if_neg (by omega)]; exact d2 i p q
  · dsimp only
    rw [if_pos (by omega), if_pos (by omega), show 0 + (7 + i - 7) = i from by omega, show 1 + i - 1 = i from by omega, e i p q]
theorem A0.mt {J S : zJ} {m : Int} (E : A0 J S) (C : CT J m) (hm : J 6 12 = m) {σ σ' : Int → Int} {p t : Int} (hp : 0 ≤ p ∧ p < m) (ht : 0 ≤ t ∧ t < m) (e : sgA σ σ') : (cmt J 6 σ p t).1 = (mmt S 0 0 σ' p t).1 ∧ sgA (cmt J 6 σ p t).2 (mmt S 0 0 σ' p t).2 := by
  obtain ⟨⟨s1, s2⟩, e6, E2, E3⟩ := E
  have h6 : ∀ t, 0 ≤ t → t < m → S 166 (0 + t) = J 7 t := fun t a c => (E2 t a (by omega)).1.symm
  refine mtO_cg C.td (fun t a c => (C.ar a c).2.2.1) h6 (fun t a c => ?_) (fun t a c i x y => (E3 t i a (by omega) x y).symm) (fun s t a b c d q => by rw [(C.2.1 s a b).1.1, (C.2.1 t c d).1.1, q]) 6 σ σ' p t hp ht e
  have h7 := (C.ar a c).2.2
  unfold mar
  rw [h6 t a c, (C.2.1 t a c).1.1]
  exact arh_cg (fun q => ((s2 _ q (by omega)).2.1).symm)
set_option maxHeartbeats 4000000 in
set_option maxRecDepth 100000 in
theorem v_match {l : Launch} {G : tb_G} (hl : l.stackTraces = false) (n : Nat) (J : zJ) (s : Int) (t : Int) (hr_s : -2147483648 ≤ s ∧ s < 2147483648) (hr_t : -2147483648 ≤ t ∧ t < 2147483648) (m : Int) (S : zJ) (pn : Int) (RR : Int → Int → Int) (hI : CI J m) (h9 : J 145 10 < 1000000000) (cc : CAL J S pn RR) (h21 : S 164 21 = 0) : tz_Ok l G M_X11_match 8 0 0 [.ref 0, zi s, zi t] n J (zqi (fun z J' => CQ J' J ∧ ((((0 ≤ s ∧ s < J 6 12) ∧ (0 ≤ t ∧ t < J 6 12)) ∧ (omt S s t).1 = true ∧ ED S pn RR (zmt S (omt S s t).2, 1) J' z) ∨ (((0 ≤ s ∧ s < J 6 12) ∧ (0 ≤ t ∧ t < J 6 12)) ∧ (omt S s t).1 = false ∧ z = 0 ∧ CAL J' S pn RR) ∨ (¬ ((0 ≤ s ∧ s < J 6 12) ∧ (0 ≤ t ∧ t < J 6 12)) ∧ z = -1 ∧ CAL J' S pn RR)))) zN := by
  refine tz_Ok.of hl (by decide +kernel) rfl (tb_c1 rfl) (Nat.le_of_ble_eq_true rfl) ?_
  show tz_At l G M_X11_match (tb_rm 8 0 0) none (tb_ZM G 0 0 (zQ n 0 (zqi (fun z J' => CQ J' J ∧ ((((0 ≤ s ∧ s < J 6 12) ∧ (0 ≤ t ∧ t < J 6 12)) ∧ (omt S s t).1 = true ∧ ED S pn RR (zmt S (omt S s t).2, 1) J' z) ∨ (((0 ≤ s ∧ s < J 6 12) ∧ (0 ≤ t ∧ t < J 6 12)) ∧ (omt S s t).1 = false ∧ z = 0 ∧ CAL J' S pn RR) ∨ (¬ ((0 ≤ s ∧ s < J 6 12) ∧ (0 ≤ t ∧ t < J 6 12)) ∧ z = -1 ∧ CAL J' S pn RR))))) (zX n 0 zN)) 0 0 n J 0 [some (.ref 0), some (zi s), some (zi t)] []
  have hC := hI.1.1.1
  have hm := hI.1.1.2.1
  have hL := hI.1.1.2.2
  have hb := hC.told
  have wb := cc.2.1.b hL
  refine tz_aload_n (pc := 0) dX11_match_0 rfl rfl ?_
  refine tz_fR (pc := 1) dX11_match_1 fl_X11_29 r_0_1 ?_
  refine tz_fR (pc := 4) dX11_match_4 fl_X11_49 r_5_0 ?_
  refine tz_iload_n (pc := 7) dX11_match_7 rfl rfl ?_
  refine tz_cV (pc := 8) (c_has hl n _ _ (by omega)) vl_X11_304 dX11_match_8 o_6 rfl rfl (Nat.le_of_ble_eq_true rfl) ⟨(Nat.le_of_ble_eq_true rfl), (Nat.le_of_ble_eq_true rfl)⟩ rfl rfl (Nat.le_of_ble_eq_true rfl) (Nat.le_of_ble_eq_true rfl) (fun r9 J_8 hq9 => ?_)
  obtain ⟨z_8, rfl, hz_8, rfl, rfl⟩ := hq9
  by_cases hw_11 : 0 ≤ s ∧ s < J 6 12
  · rw [show (if 0 ≤ s ∧ s < J 6 12 then 1 else 0 : Int) = 1 from if_pos hw_11]
    refine tz_if_eqF (pc := 11) (tgt := 28) (by decide) dX11_match_11 (by decide) (by decide) ?_
    refine tz_aload_n (pc := 14) dX11_match_14 rfl rfl ?_
    refine tz_fR (pc := 15) dX11_match_15 fl_X11_29 r_0_1 ?_
    refine tz_fR (pc := 18) dX11_match_18 fl_X11_49 r_5_0 ?_
    refine tz_iload_n (pc := 21) dX11_match_21 rfl rfl ?_
    refine tz_cV (pc := 22) (c_has hl n _ _ (by omega)) vl_X11_304 dX11_match_22 o_6 rfl rfl (Nat.le_of_ble_eq_true rfl) ⟨(Nat.le_of_ble_eq_true rfl), (Nat.le_of_ble_eq_true rfl)⟩ rfl rfl (Nat.le_of_ble_eq_true rfl) (Nat.le_of_ble_eq_true rfl) (fun r9 J_22 hq9 => ?_)
    obtain ⟨z_22, rfl, hz_22, rfl, rfl⟩ := hq9
    by_cases hw_25 : 0 ≤ t ∧ t < J 6 12
    · rw [show (if 0 ≤ t ∧ t < J 6 12 then 1 else 0 : Int) = 1 from if_pos hw_25]
      refine tz_if_neT (pc := 25) (tgt := 35) (by decide) dX11_match_25 (by decide) (by decide) ?_
      refine tz_aload_n (pc := 35) dX11_match_35 rfl rfl ?_
      refine tz_fR (pc := 36) dX11_match_36 fl_X11_55 r_0_6 ?_
      refine tz_iload_n (pc := 39) dX11_match_39 rfl rfl ?_
      refine tz_iload_n (pc := 40) dX11_match_40 rfl rfl ?_
      refine tz_cV (pc := 41) (x_matches hl n _ _ _ (by omega) (by omega) m hC (by omega) (by omega)) vl_X11_326 dX11_match_41 o_139 rfl rfl (Nat.le_of_ble_eq_true rfl) ⟨(Nat.le_of_ble_eq_true rfl), (Nat.le_of_ble_eq_true rfl)⟩ rfl rfl (Nat.le_of_ble_eq_true rfl) (Nat.le_of_ble_eq_true rfl) (fun r9 J1 hq9 => ?_)
      obtain ⟨zc, rfl, hz_41, ⟨σ9, qs, q1⟩, q2, q3⟩ := hq9
      have hw1 := hI.work q2 rfl
      have hI1 := hw1.1
      have cc1 := cc.wk hI q2 rfl
      have qa : (cmt J 6 σ9 s t).1 = (omt S s t).1 ∧ sgA (cmt J 6 σ9 s t).2 (omt S s t).2 := cc.1.mt hC hm (by omega) (by omega) qs
      have qc : zc = 0 ∨ zc = 1 := q1.1.elim (fun q => Or.inr q.2) (fun q => Or.inl q.2)
      refine tz_if_ne (pc := 44) (tgt := 54) dX11_match_44 (by decide) (by omega) (fun h_44 => ?_) (fun h_44 => ?_)
      · refine tz_aload_n (pc := 54) dX11_match_54 rfl rfl ?_
        refine tz_fR (pc := 55) dX11_match_55 fl_X11_29 r_0_1 ?_
        refine tz_cV (pc := 58) (c_begin hl n _) vl_X11_287 dX11_match_58 o_5 rfl rfl (Nat.le_of_ble_eq_true rfl) ⟨(Nat.le_of_ble_eq_true rfl), (Nat.le_of_ble_eq_true rfl)⟩ rfl rfl (Nat.le_of_ble_eq_true rfl) (Nat.le_of_ble_eq_true rfl) (fun r9 Jb hq9 => ?_)
        obtain ⟨rfl, hj⟩ := hq9
        have hb9 : zOf (zbut [19, 61]) Jb J1 := by rw [← hj]; exact zOf.cp rfl (zOf.up rfl zOf.rf)
        have hb19 : ∀ k, ¬ k = 0 → Jb 19 k = J1 19 k := fun k hk => by rw [← hj, zcp_nc (by decide), zup_ne hk]
        have a0 : AC Jb m m := by rw [← hj]; exact hI1.begin
        have hb6 := a0.1.1.2.1
        obtain ⟨cb, kb, lb⟩ := cc1.begin hI1 hj
        refine tz_aload_n (pc := 61) dX11_match_61 rfl rfl ?_
        refine tz_fR (pc := 62) dX11_match_62 fl_X11_55 r_0_6 ?_
        refine tz_fR (pc := 65) dX11_match_65 fl_X11_329 r_139_1 ?_
        refine tz_iconst (pc := 68) dX11_match_68 ?_
        refine tz_aload_n (pc := 69) dX11_match_69 rfl rfl ?_
        refine tz_fR (pc := 70) dX11_match_70 fl_X11_29 r_0_1 ?_
        refine tz_fR (pc := 73) dX11_match_73 fl_X11_156 r_5_1 ?_
        refine tz_fR (pc := 76) dX11_match_76 fl_X11_167 r_18_0 ?_
        refine tz_bipush (pc := 79) dX11_match_79 (by decide) ?_
        refine tz_bipush (pc := 81) dX11_match_81 (by decide) ?_
        refine tz_cp (pc := 83) (sp := 0) (dp := 7) (ln := 8) dX11_match_83 ml_X11_332 a_140 a_19 rfl rfl (by decide) (Nat.le_of_ble_eq_true rfl) (by decide +kernel) ?_
        have fw : zOf (zbut [19]) (zcp Jb 140 19 0 7 8) Jb := zOf.cp rfl zOf.rf
        have a1 : AC (zcp Jb 140 19 0 7 8) m m := a0.led fw (a0.1.1.2.2.got (by rw [hb9 140 rfl]; exact q3))
        refine tz_aload_n (pc := 86) dX11_match_86 rfl rfl ?_
        refine tz_fR (pc := 87) dX11_match_87 fl_X11_29 r_0_1 ?_
        refine tz_cV (pc := 90) (x_keep hl n _ m m a1) vl_X11_305 dX11_match_90 o_5 rfl rfl (Nat.le_of_ble_eq_true rfl) ⟨(Nat.le_of_ble_eq_true rfl), (Nat.le_of_ble_eq_true rfl)⟩ rfl rfl (Nat.le_of_ble_eq_true rfl) (Nat.le_of_ble_eq_true rfl) (fun r9 Jk hq9 => ?_)
        obtain ⟨rfl, k9, kx⟩ := hq9
        refine tz_iconst (pc := 93) dX11_match_93 ?_
        have e9 : sgA (Jb 140) (omt S s t).2 := by rw [hb9 140 rfl, q1.2]; exact qa.2
        exact tz_iret (pc := 94) (z := 1) dX11_match_94 rfl (Nat.le_of_ble_eq_true rfl) (Nat.le_of_ble_eq_true rfl) ⟨Nat.le_refl _, Nat.le_add_right _ _⟩ ⟨_, rfl, (by decide), ⟨(CQ.k k9 (by rw [fw 145 rfl, hb9 145 rfl, hw1.2.1]; omega) ((fw 0 rfl).trans ((hb9 0 rfl).trans hw1.2.2.1)) ((fw.mono (fun c hc => by have := of_decide_eq_true hc; simp [zbut]; omega)).tr ((hb9.mono (fun c hc => by have := of_decide_eq_true hc; simp [zbut]; omega)).tr hw1.2.2.2))), Or.inl ⟨by omega, (qa.1.symm.trans (q1.1.resolve_right (fun k => by have := k.2; omega)).1), act_keep (F := (zmt S (omt S s t).2, 1)) cc1 hI1 hj fw h21 rfl (by show (if 1 ≤ (0 : Int) ∧ (0 : Int) < 9 then (omt S s t).2 (0 - 1) + 1 else S 165 0) = S 165 0; rw [if_neg (by omega)]) (fun c hc => if_neg (fun e => by rw [e] at hc; cases hc)) (cb.2.1.mt wb e9) k9.2 kx⟩⟩⟩
      · refine tz_aload_n (pc := 47) dX11_match_47 rfl rfl ?_
        refine tz_iconst (pc := 48) dX11_match_48 ?_
        refine tz_iconst (pc := 49) dX11_match_49 ?_
        refine tz_cV (pc := 50) (c_refused hl n _ _ _ (by decide) (by omega) (by decide)) vl_X11_284 dX11_match_50 o_0 rfl rfl (Nat.le_of_ble_eq_true rfl) ⟨(Nat.le_of_ble_eq_true rfl), (Nat.le_of_ble_eq_true rfl)⟩ rfl rfl (Nat.le_of_ble_eq_true rfl) (Nat.le_of_ble_eq_true rfl) (fun r9 J_50 hq9 => ?_)
        obtain ⟨z_50, rfl, hz_50, f9, rfl⟩ := hq9
        exact tz_iret (pc := 53) (z := 0) dX11_match_53 rfl (Nat.le_of_ble_eq_true rfl) (Nat.le_of_ble_eq_true rfl) ⟨Nat.le_refl _, Nat.le_add_right _ _⟩ ⟨_, rfl, (by decide), ⟨(SQ.cq ⟨⟨m, hI1.st f9⟩, f9 145 rfl, f9 0 rfl, (f9.mono (fun c hc => by have := of_decide_eq_true hc; simp [zbut]; omega))⟩ (by rw [hw1.2.1]; omega) hw1.2.2.1 hw1.2.2.2), Or.inr (Or.inl ⟨by omega, (qa.1.symm.trans (q1.1.resolve_left (fun k => by have := k.2; omega)).1), rfl, cc1.st hI1 f9⟩)⟩⟩
    · rw [show (if 0 ≤ t ∧ t < J 6 12 then 1 else 0 : Int) = 0 from if_neg hw_25]
      refine tz_if_neF (pc := 25) (tgt := 35) (by decide) dX11_match_25 (by decide) (by decide) ?_
      refine tz_aload_n (pc := 28) dX11_match_28 rfl rfl ?_
      refine tz_iconst (pc := 29) dX11_match_29 ?_
      refine tz_iconst (pc := 30) dX11_match_30 ?_
      refine tz_cV (pc := 31) (c_refused hl n _ _ _ (by decide) (by omega) (by decide)) vl_X11_284 dX11_match_31 o_0 rfl rfl (Nat.le_of_ble_eq_true rfl) ⟨(Nat.le_of_ble_eq_true rfl), (Nat.le_of_ble_eq_true rfl)⟩ rfl rfl (Nat.le_of_ble_eq_true rfl) (Nat.le_of_ble_eq_true rfl) (fun r9 J_31 hq9 => ?_)
      obtain ⟨z_31, rfl, hz_31, f9, rfl⟩ := hq9
      exact tz_iret (pc := 34) (z := (-1)) dX11_match_34 rfl (Nat.le_of_ble_eq_true rfl) (Nat.le_of_ble_eq_true rfl) ⟨Nat.le_refl _, Nat.le_add_right _ _⟩ ⟨_, rfl, (by decide), ⟨(SQ.cq ⟨⟨m, hI.st f9⟩, f9 145 rfl, f9 0 rfl, (f9.mono (fun c hc => by have := of_decide_eq_true hc; simp [zbut]; omega))⟩ (by omega) rfl zOf.rf), Or.inr (Or.inr ⟨by omega, rfl, cc.st hI f9⟩)⟩⟩
  · rw [show (if 0 ≤ s ∧ s < J 6 12 then 1 else 0 : Int) = 0 from if_neg hw_11]
    refine tz_if_eqT (pc := 11) (tgt := 28) (by decide) dX11_match_11 (by decide) (by decide) ?_
    refine tz_aload_n (pc := 28) dX11_match_28 rfl rfl ?_
    refine tz_iconst (pc := 29) dX11_match_29 ?_
    refine tz_iconst (pc := 30) dX11_match_30 ?_
    refine tz_cV (pc := 31) (c_refused hl n _ _ _ (by decide) (by omega) (by decide)) vl_X11_284 dX11_match_31 o_0 rfl rfl (Nat.le_of_ble_eq_true rfl) ⟨(Nat.le_of_ble_eq_true rfl), (Nat.le_of_ble_eq_true rfl)⟩ rfl rfl (Nat.le_of_ble_eq_true rfl) (Nat.le_of_ble_eq_true rfl) (fun r9 J_31 hq9 => ?_)
    obtain ⟨z_31, rfl, hz_31, f9, rfl⟩ := hq9
    exact tz_iret (pc := 34) (z := (-1)) dX11_match_34 rfl (Nat.le_of_ble_eq_true rfl) (Nat.le_of_ble_eq_true rfl) ⟨Nat.le_refl _, Nat.le_add_right _ _⟩ ⟨_, rfl, (by decide), ⟨(SQ.cq ⟨⟨m, hI.st f9⟩, f9 145 rfl, f9 0 rfl, (f9.mono (fun c hc => by have := of_decide_eq_true hc; simp [zbut]; omega))⟩ (by omega) rfl zOf.rf), Or.inr (Or.inr ⟨by omega, rfl, cc.st hI f9⟩)⟩⟩

theorem tbz_6 {J : zJ} {t : Int} (h : 0 ≤ t ∧ t < 400) : tbz J 166 (0 + t) = J 166 (0 + t) := by
  show (if 0 ≤ 0 + t ∧ 0 + t < 400 then J 166 (0 + t) else 0) = _
  rw [if_pos (by omega)]
theorem mmt_z {J : zJ} {s m : Int} (hM : MS J 0 0 0 s m) {σ : Int → Int} {p t : Int} (hp : 0 ≤ p ∧ p < m) (ht : 0 ≤ t ∧ t < m) (e : ∀ k, 0 ≤ k → k < 8 → σ k = -1) : (mmt J 0 0 σ p t).1 = (omt (tbz J) p t).1 ∧ sgA (mmt J 0 0 σ p t).2 (omt (tbz J) p t).2 := by
  have hT := hM.told
  refine mtO_cg hM.td (fun t a c => (hM.ar ⟨a, c⟩).2.1.1) (fun t a c => tbz_6 (by omega)) (fun t a c => ?_) (fun t a c i x y => ?_) (fun s t a b c d q => MS.hd8 q) 6 σ _ p t hp ht e
  · unfold mar
    rw [tbz_6 (by omega)]
    refine arh_cg (fun q => ?_)
    have := (hM.ar ⟨a, c⟩).2.1.2
    show (if 0 ≤ 0 + J 166 (0 + t) ∧ 0 + J 166 (0 + t) < 10 then J 170 (0 + J 166 (0 + t)) else 0) = _
    rw [if_pos (by omega)]
  · have := (hM.ar ⟨a, c⟩).1
    show (if 0 ≤ 3 * (0 + t) + i ∧ 3 * (0 + t) + i < 1200 then J 167 (3 * (0 + t) + i) else 0) = _
    rw [if_pos (by omega)]
    rfl
theorem tb0_mt {J1 Jb S : zJ} {τ τ' : Int → Int} (hb : tb0 Jb = S) (f : zOf (zbut [165]) J1 Jb) (e : sgA τ τ') (x : ∀ q, J1 165 q = if 1 ≤ q ∧ q < 1 + 8 then τ (q - 1) + 1 else Jb 165 q) : tb0 J1 = zmt S τ' := by
  funext q k
  by_cases h5 : q = 165
  · subst h5
    show (if 0 ≤ k ∧ k < 63 then J1 165 k else 0) = if 1 ≤ k ∧ k < 9 then τ' (k - 1) + 1 else S 165 k
    rw [← hb, tb0_5]
    by_cases hk : 0 ≤ k ∧ k < 63
    · rw [if_pos hk, if_pos hk, x k]
      by_cases r : 1 ≤ k ∧ k < 9
      · rw [if_pos (by omega), if_pos r, e (k - 1) (by omega) (by omega)]
      · rw [if_neg (by omega), if_neg r]
    · rw [if_neg hk, if_neg hk, if_neg (by omega)]
  · show tb0 J1 q k = (if q = 165 then _ else S q) k
    rw [if_neg h5, ← hb]
    unfold tb0
    rw [if_neg h5, if_neg h5, f 164 rfl, f 167 rfl]
    by_cases c6 : q = 166 ∨ q = 168
    · rcases c6 with c6 | c6
      · rw [c6, f 166 rfl]
      · rw [c6, f 168 rfl]
    · rw [if_neg c6, if_neg c6]
      by_cases c9 : q = 169 ∨ q = 170 ∨ q = 171
      · rcases c9 with c9 | c9 | c9
        · rw [c9, f 169 rfl]
        · rw [c9, f 170 rfl]
        · rw [c9, f 171 rfl]
      · rw [if_neg c9, if_neg c9]
theorem mt_st {J1 J0 : zJ} {k v : Int} (hk : 0 ≤ k) (hv : v = J0 174 k + 1) (x : ∀ q, J1 165 q = if 1 ≤ q ∧ q < 1 + k then J0 174 (q - 1) + 1 else J0 165 q) : ∀ q, zup J1 165 (1 + k) v 165 q = if 1 ≤ q ∧ q < 1 + (k + 1) then J0 174 (q - 1) + 1 else J0 165 q := fun q => by
  by_cases e : q = 1 + k
  · subst e
    rw [zup_at, if_pos (by omega), hv, show 1 + k - 1 = k from by omega]
  · rw [zup_ne e, x q]
    by_cases r : 1 ≤ q ∧ q < 1 + k
    · rw [if_pos r, if_pos (by omega)]
    · rw [if_neg r, if_neg (by omega)]
theorem AE3 {S J' Jb J : zJ} {F : zJ × Int} {n z : Int} {R : Int → Int → Int} {P P' Q : Prop} (q : MQr J' J) (b : MFI Jb J) (e : MED S n R F J' z ∧ MFI J' Jb) (p : P) (p' : P') : MQr J' J ∧ MFI J' J ∧ ((P ∧ P' ∧ MED S n R F J' z) ∨ Q) := ⟨q, b.tr e.2, Or.inl ⟨p, p', e.1⟩⟩
set_option maxHeartbeats 4000000 in
set_option maxRecDepth 100000 in
theorem v_qmatch {l : Launch} {G : tb_G} (hl : l.stackTraces = false) (n : Nat) (J : zJ) (x : Int) (y : Int) (hr_x : -2147483648 ≤ x ∧ x < 2147483648) (hr_y : -2147483648 ≤ y ∧ y < 2147483648) (m : Int) (pn : Int) (RR : Int → Int → Int) (hI : MI J m) (u9 : MUr J pn RR) : tz_Ok l G M_X12_match 12 0 0 [.ref 164, zi x, zi y] n J (zqi (fun z J' => MQr J' J ∧ MFI J' J ∧ ((((0 ≤ x ∧ x < J 165 0) ∧ (0 ≤ y ∧ y < J 165 0)) ∧ (omt (tbz J) x y).1 = true ∧ MED (tbz J) pn RR (zmt (tbz J) (omt (tbz J) x y).2, 1) J' z) ∨ (((0 ≤ x ∧ x < J 165 0) ∧ (0 ≤ y ∧ y < J 165 0)) ∧ (omt (tbz J) x y).1 = false ∧ z = 0 ∧ MBT J' (tbz J) ∧ MUr J' pn RR) ∨ (¬ ((0 ≤ x ∧ x < J 165 0) ∧ (0 ≤ y ∧ y < J 165 0)) ∧ z = -1 ∧ MBT J' (tbz J) ∧ MUr J' pn RR)))) zN := by
  refine tz_Ok.of hl (by decide +kernel) rfl (tb_c1 rfl) (Nat.le_of_ble_eq_true rfl) ?_
  show tz_At l G M_X12_match (tb_rm 12 0 0) none (tb_ZM G 0 0 (zQ n 0 (zqi (fun z J' => MQr J' J ∧ MFI J' J ∧ ((((0 ≤ x ∧ x < J 165 0) ∧ (0 ≤ y ∧ y < J 165 0)) ∧ (omt (tbz J) x y).1 = true ∧ MED (tbz J) pn RR (zmt (tbz J) (omt (tbz J) x y).2, 1) J' z) ∨ (((0 ≤ x ∧ x < J 165 0) ∧ (0 ≤ y ∧ y < J 165 0)) ∧ (omt (tbz J) x y).1 = false ∧ z = 0 ∧ MBT J' (tbz J) ∧ MUr J' pn RR) ∨ (¬ ((0 ≤ x ∧ x < J 165 0) ∧ (0 ≤ y ∧ y < J 165 0)) ∧ z = -1 ∧ MBT J' (tbz J) ∧ MUr J' pn RR))))) (zX n 0 zN)) 0 0 n J 0 [some (.ref 164), some (zi x), some (zi y), none] []
  have hT := hI.told
  have hW := hI.row
  have hM := hI.1
  have hL := hI.2.1
  refine tz_aload_n (pc := 0) dX12_match_0 rfl rfl ?_
  refine tz_iconst (pc := 1) dX12_match_1 ?_
  refine tz_pI (pc := 2) (kz := 8) dX12_match_2 fl_X12_68 i_164_8 rfl rfl (by decide) ?_
  refine tz_aload_n (pc := 5) dX12_match_5 rfl rfl ?_
  refine tz_iload_n (pc := 6) dX12_match_6 rfl rfl ?_
  refine tz_cV (pc := 7) (m_isTerm hl n _ _ (by omega) (by rw [(show ((zup J 164 8 0) : zJ) 165 0 = (J 165 0) from rfl)]; omega)) vl_X12_376 dX12_match_7 o_164 rfl rfl (Nat.le_of_ble_eq_true rfl) ⟨(Nat.le_of_ble_eq_true rfl), (Nat.le_of_ble_eq_true rfl)⟩ rfl rfl (Nat.le_of_ble_eq_true rfl) (Nat.le_of_ble_eq_true rfl) (fun r9 J_7 hq9 => ?_)
  obtain ⟨z_7, rfl, hz_7, rfl, ht_7⟩ := hq9
  rw [(show ((zup J 164 8 0) : zJ) 165 0 = (J 165 0) from rfl)] at ht_7
  refine tz_if_eq (pc := 10) (tgt := 21) dX12_match_10 (by decide) (by omega) (fun h_10 => ?_) (fun h_10 => ?_)
  · refine tz_aload_n (pc := 21) dX12_match_21 rfl rfl ?_
    refine tz_iconst (pc := 22) dX12_match_22 ?_
    refine tz_iconst (pc := 23) dX12_match_23 ?_
    refine tz_cV (pc := 24) (m_refuses hl n _ _ _ (by decide) (by decide) (by decide)) vl_X12_391 dX12_match_24 o_164 rfl rfl (Nat.le_of_ble_eq_true rfl) ⟨(Nat.le_of_ble_eq_true rfl), (Nat.le_of_ble_eq_true rfl)⟩ rfl rfl (Nat.le_of_ble_eq_true rfl) (Nat.le_of_ble_eq_true rfl) (fun r9 J_24 hq9 => ?_)
    obtain ⟨z_24, rfl, hz_24, rfl, f_24⟩ := hq9
    have y_24 : MZ J_24 J := MZ.tr (MZ.up (k := 8) MZ.rf (by decide)) (MZ.c f_24 (by decide))
    exact tz_iret (pc := 27) (z := (-1)) dX12_match_27 rfl (Nat.le_of_ble_eq_true rfl) (Nat.le_of_ble_eq_true rfl) ⟨Nat.le_refl _, Nat.le_add_right _ _⟩ ⟨_, rfl, (by decide), ⟨MQr.z hI y_24, MFI.z y_24, Or.inr (Or.inr ⟨by omega, rfl, MBT.z hI y_24, u9.z y_24⟩)⟩⟩
  · refine tz_aload_n (pc := 13) dX12_match_13 rfl rfl ?_
    refine tz_iload_n (pc := 14) dX12_match_14 rfl rfl ?_
    refine tz_cV (pc := 15) (m_isTerm hl n _ _ (by omega) (by rw [(show ((zup J 164 8 0) : zJ) 165 0 = (J 165 0) from rfl)]; omega)) vl_X12_376 dX12_match_15 o_164 rfl rfl (Nat.le_of_ble_eq_true rfl) ⟨(Nat.le_of_ble_eq_true rfl), (Nat.le_of_ble_eq_true rfl)⟩ rfl rfl (Nat.le_of_ble_eq_true rfl) (Nat.le_of_ble_eq_true rfl) (fun r9 J_15 hq9 => ?_)
    obtain ⟨z_15, rfl, hz_15, rfl, ht_15⟩ := hq9
    rw [(show ((zup J 164 8 0) : zJ) 165 0 = (J 165 0) from rfl)] at ht_15
    refine tz_if_ne (pc := 18) (tgt := 28) dX12_match_18 (by decide) (by omega) (fun h_18 => ?_) (fun h_18 => ?_)
    · refine tz_aload_n (pc := 28) dX12_match_28 rfl rfl ?_
      refine tz_iload_n (pc := 29) dX12_match_29 rfl rfl ?_
      refine tz_iload_n (pc := 30) dX12_match_30 rfl rfl ?_
      refine tz_cV (pc := 31) (x_doesMatch hl n _ _ _ (by omega) (by omega) 0 0 0 (J 164 9) m (hM.z (MZ.up (k := 8) MZ.rf (by decide))) (by omega) (by omega)) vl_X12_227 dX12_match_31 o_164 rfl rfl (Nat.le_of_ble_eq_true rfl) ⟨(Nat.le_of_ble_eq_true rfl), (Nat.le_of_ble_eq_true rfl)⟩ rfl rfl (Nat.le_of_ble_eq_true rfl) (Nat.le_of_ble_eq_true rfl) (fun r9 J_31 hq9 => ?_)
      obtain ⟨zc, rfl, hz_31, ⟨σ9, qs, q1⟩, f_31, g_31⟩ := hq9
      have y_31 : MZ J_31 J := MZ.tr (MZ.up (k := 8) MZ.rf (by decide)) (MZ.c f_31 (by decide))
      have qa : (mmt J 0 0 σ9 x y).1 = (omt (tbz J) x y).1 ∧ sgA (mmt J 0 0 σ9 x y).2 (omt (tbz J) x y).2 := mmt_z hM (by omega) (by omega) qs
      have q8 : MAM (mmt J 0 0 σ9 x y) zc J_31 := q1
      have qc : zc = 0 ∨ zc = 1 := q1.1.elim (fun q => Or.inr q.2) (fun q => Or.inl q.2)
      refine tz_if_ne (pc := 34) (tgt := 44) dX12_match_34 (by decide) (by omega) (fun h_34 => ?_) (fun h_34 => ?_)
      · refine tz_aload_n (pc := 44) dX12_match_44 rfl rfl ?_
        refine tz_cV (pc := 45) (m_begins hl n _) vl_X12_400 dX12_match_45 o_164 rfl rfl (Nat.le_of_ble_eq_true rfl) ⟨(Nat.le_of_ble_eq_true rfl), (Nat.le_of_ble_eq_true rfl)⟩ rfl rfl (Nat.le_of_ble_eq_true rfl) (Nat.le_of_ble_eq_true rfl) (fun r9 J_45 hq9 => ?_)
        obtain ⟨rfl, hj_45⟩ := hq9
        have a_45 : AM J_45 J m m := by rw [← hj_45]; exact AM.begin (hI.z y_31) ⟨MZ.lo y_31, SC.z y_31⟩
        have br_45 : ∀ k, (k < 63 ∨ 126 ≤ k) → J_45 165 k = (J_31 : zJ) 165 k := fun k hk => by rw [← hj_45]; exact zbg_r hk
        have bl_45 : ∀ k, ¬ k = 34 → ¬ k = 33 → ¬ k = 21 → J_45 164 k = (J_31 : zJ) 164 k := fun k u v w => by rw [← hj_45]; exact zbg_f u v w
        have bo_45 : zOf (zbut [164, 165]) J_45 J_31 := by rw [← hj_45]; exact zbg_of
        have b3_45 : J_45 164 21 = 0 ∧ J_45 164 33 = 0 ∧ J_45 164 34 = 0 := by rw [← hj_45]; exact ⟨rfl, rfl, rfl⟩
        have s9_45 : J_45 164 9 = J 164 9 := (bl_45 9 (by decide) (by decide) (by decide)).trans (y_31.2 9 (by decide) (by decide))
        obtain ⟨⟨bt_45, bs_45, bm_45, ba_45⟩, bu_45, bn_45, bf_45, bi_45⟩ := mbeg hI y_31 hj_45 u9
        refine tz_iconst (pc := 48) dX12_match_48 ?_
        refine tz_istore_n (pc := 49) (L2 := [_, _, _, _]) dX12_match_49 rfl (by decide) rfl ?_
        have loop50 : ∀ (f9 : Nat) (k : Int) (J1 : zJ), ((8 - k).toNat) < f9 → (0 ≤ k ∧ k ≤ 8) → (zOf (zbut [165]) J1 J_45) → (∀ q, (q < 1 ∨ 8 < q) → J1 165 q = J_45 165 q) → (∀ v, 0 ≤ v → v < k → 0 ≤ J1 165 (1 + v) ∧ J1 165 (1 + v) ≤ m) → (∀ q, J1 165 q = if 1 ≤ q ∧ q < 1 + k then J_45 174 (q - 1) + 1 else J_45 165 q) → tz_At l G M_X12_match (tb_rm 12 0 0) none (tb_ZM G 0 0 (zQ n 0 (zqi (fun z J' => MQr J' J ∧ MFI J' J ∧ ((((0 ≤ x ∧ x < J 165 0) ∧ (0 ≤ y ∧ y < J 165 0)) ∧ (omt (tbz J) x y).1 = true ∧ MED (tbz J) pn RR (zmt (tbz J) (omt (tbz J) x y).2, 1) J' z) ∨ (((0 ≤ x ∧ x < J 165 0) ∧ (0 ≤ y ∧ y < J 165 0)) ∧ (omt (tbz J) x y).1 = false ∧ z = 0 ∧ MBT J' (tbz J) ∧ MUr J' pn RR) ∨ (¬ ((0 ≤ x ∧ x < J 165 0) ∧ (0 ≤ y ∧ y < J 165 0)) ∧ z = -1 ∧ MBT J' (tbz J) ∧ MUr J' pn RR))))) (zX n 0 zN)) 0 0 n J1 50 [some (.ref 164), some (zi x), some (zi y), some (zi k)] [] := by
          intro f9
          induction f9 with
          | zero => intro k J1 hm9; exact absurd hm9 (Nat.not_lt_zero _)
          | succ f9 ih50 =>
            intro k J1 hm50 hk f1 e1 h1 x1
            refine tz_iload_n (pc := 50) dX12_match_50 rfl rfl ?_
            refine tz_bipush (pc := 51) dX12_match_51 (by decide) ?_
            refine tz_icmp_ge (pc := 53) (tgt := 78) dX12_match_53 (by decide) (by omega) (by decide) (fun h_53 => ?_) (fun h_53 => ?_)
            · refine tz_aload_n (pc := 78) dX12_match_78 rfl rfl ?_
              refine tz_iconst (pc := 79) dX12_match_79 ?_
              refine tz_cV (pc := 80) (m_keeps hl n _ _ (by decide) ((AM.matchs a_45 f1 e1 (fun v p q => h1 v p (by omega)))).2.2.2.1.1.1 ((AM.matchs a_45 f1 e1 (fun v p q => h1 v p (by omega)))).2.2.2.1.1.2) vl_X12_403 dX12_match_80 o_164 rfl rfl (Nat.le_of_ble_eq_true rfl) ⟨(Nat.le_of_ble_eq_true rfl), (Nat.le_of_ble_eq_true rfl)⟩ rfl rfl (Nat.le_of_ble_eq_true rfl) (Nat.le_of_ble_eq_true rfl) (fun r9 J_80 hq9 => ?_)
              obtain ⟨z_80, rfl, hz_80, k_80⟩ := hq9
              exact tz_iret (pc := 83) (z := z_80) dX12_match_83 rfl (Nat.le_of_ble_eq_true rfl) (Nat.le_of_ble_eq_true rfl) ⟨Nat.le_refl _, Nat.le_add_right _ _⟩ ⟨_, rfl, (by omega), (AE3 (AM.keep (AM.matchs a_45 f1 e1 (fun v p q => h1 v p (by omega))) k_80) bi_45 (mact_end (F := (zmt (tbz J) (omt (tbz J) x y).2, 1)) bt_45 bs_45 bm_45 ba_45 bu_45 bn_45 bf_45 (MOP.r5 f1 (fun k a => e1 k (by omega))) (tb0_mt bt_45 f1 (τ := J_45 174) (by rw [bo_45 174 rfl, q8.2]; exact qa.2) (fun q => by rw [x1 q, show k = 8 from by omega])) (by show (if 1 ≤ (0 : Int) ∧ (0 : Int) < 9 then (omt (tbz J) x y).2 (0 - 1) + 1 else tbz J 165 0) ≤ 400; rw [if_neg (by omega), bs_45]; exact bm_45) (fun _ => rfl) k_80) (by omega) (qa.1.symm.trans (q1.1.resolve_right (fun k => by have := k.2; omega)).1))⟩
            · have hg9 := g_31 k (by omega) (by omega)
              refine tz_aload_n (pc := 56) dX12_match_56 rfl rfl ?_
              refine tz_fR (pc := 57) dX12_match_57 fl_X12_9 r_164_0 ?_
              refine tz_iconst (pc := 60) dX12_match_60 ?_
              refine tz_iload_n (pc := 61) dX12_match_61 rfl rfl ?_
              refine tz_iadd (pc := 62) (v := 1 + k) dX12_match_62 rfl ?_
              refine tz_aload_n (pc := 63) dX12_match_63 rfl rfl ?_
              refine tz_fR (pc := 64) dX12_match_64 fl_X12_41 r_164_22 ?_
              refine tz_iload_n (pc := 67) dX12_match_67 rfl rfl ?_
              refine tz_aL (pc := 68) (z := k) (v := (J_31 174 k)) dX12_match_68 a_174 rfl (by omega) (Eq.trans (congrFun (f1 174 rfl) k) (Eq.trans (congrFun (bo_45 174 rfl) k) rfl)) (fun r_68 => ?_)
              refine tz_iconst (pc := 69) dX12_match_69 ?_
              refine tz_iadd (pc := 70) (v := (J_31 174 k) + 1) dX12_match_70 rfl ?_
              refine tz_aS (pc := 71) (z := (1 + k)) dX12_match_71 a_165 rfl (by omega) (by omega) ?_
              refine tz_iinc (pc := 72) (z := k + 1) (L2 := [_, _, _, _]) dX12_match_72 rfl (by omega) rfl ?_
              refine tz_goto (pc := 75) (tgt := 50) dX12_match_75 (by decide) ?_
              exact ih50 (k + 1) _ (by omega) (by omega) (zOf.up rfl f1) (fun q z => (zup_ne (by omega)).trans (e1 q z)) (fun v p q => (Decidable.em (v = k)).elim (fun e => by rw [e, zup_at]; omega) (fun e => by rw [zup_ne (by omega)]; exact h1 v p (by omega))) (mt_st (by omega) (by rw [bo_45 174 rfl]) x1)
        exact loop50 _ 0 _ (Nat.lt_succ_self _) (by omega) zOf.rf (fun _ _ => rfl) (fun v p q => by omega) (fun q => by rw [if_neg (by omega)])
      · refine tz_aload_n (pc := 37) dX12_match_37 rfl rfl ?_
        refine tz_iconst (pc := 38) dX12_match_38 ?_
        refine tz_iconst (pc := 39) dX12_match_39 ?_
        refine tz_cV (pc := 40) (m_refuses hl n _ _ _ (by decide) (by decide) (by decide)) vl_X12_391 dX12_match_40 o_164 rfl rfl (Nat.le_of_ble_eq_true rfl) ⟨(Nat.le_of_ble_eq_true rfl), (Nat.le_of_ble_eq_true rfl)⟩ rfl rfl (Nat.le_of_ble_eq_true rfl) (Nat.le_of_ble_eq_true rfl) (fun r9 J_40 hq9 => ?_)
        obtain ⟨z_40, rfl, hz_40, rfl, f_40⟩ := hq9
        have y_40 : MZ J_40 J := MZ.tr y_31 (MZ.c f_40 (by decide))
        exact tz_iret (pc := 43) (z := 0) dX12_match_43 rfl (Nat.le_of_ble_eq_true rfl) (Nat.le_of_ble_eq_true rfl) ⟨Nat.le_refl _, Nat.le_add_right _ _⟩ ⟨_, rfl, (by decide), ⟨MQr.z hI y_40, MFI.z y_40, Or.inr (Or.inl ⟨by omega, (qa.1.symm.trans (q1.1.resolve_left (fun k => by have := k.2; omega)).1), rfl, MBT.z hI y_40, u9.z y_40⟩)⟩⟩
    · refine tz_aload_n (pc := 21) dX12_match_21 rfl rfl ?_
      refine tz_iconst (pc := 22) dX12_match_22 ?_
      refine tz_iconst (pc := 23) dX12_match_23 ?_
      refine tz_cV (pc := 24) (m_refuses hl n _ _ _ (by decide) (by decide) (by decide)) vl_X12_391 dX12_match_24 o_164 rfl rfl (Nat.le_of_ble_eq_true rfl) ⟨(Nat.le_of_ble_eq_true rfl), (Nat.le_of_ble_eq_true rfl)⟩ rfl rfl (Nat.le_of_ble_eq_true rfl) (Nat.le_of_ble_eq_true rfl) (fun r9 J_24 hq9 => ?_)
      obtain ⟨z_24, rfl, hz_24, rfl, f_24⟩ := hq9
      have y_24 : MZ J_24 J := MZ.tr (MZ.up (k := 8) MZ.rf (by decide)) (MZ.c f_24 (by decide))
      exact tz_iret (pc := 27) (z := (-1)) dX12_match_27 rfl (Nat.le_of_ble_eq_true rfl) (Nat.le_of_ble_eq_true rfl) ⟨Nat.le_refl _, Nat.le_add_right _ _⟩ ⟨_, rfl, (by decide), ⟨MQr.z hI y_24, MFI.z y_24, Or.inr (Or.inr ⟨by omega, rfl, MBT.z hI y_24, u9.z y_24⟩)⟩⟩

