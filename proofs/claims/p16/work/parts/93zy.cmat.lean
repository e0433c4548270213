/-! ===== matches of the class, exact ===== -/
def cmt (J : zJ) : Nat → (Int → Int) → Int → Int → Bool × (Int → Int) := mtO (J 7) (J 8) (cag J)
theorem cmt_of {J1 J : zJ} (f : zOf (zbut [140]) J1 J) : cmt J1 = cmt J := by
  unfold cmt cag
  rw [f 7 rfl, f 8 rfl, f 9 rfl]
/-- what an answer of the function is -/
def MAN (r : Bool × (Int → Int)) (z : Int) (J' : zJ) : Prop := ((r.1 = true ∧ z = 1) ∨ (r.1 = false ∧ z = 0)) ∧ J' 140 = r.2
theorem MAN.v {J J' : zJ} {k : Nat} {p t z v : Int} (hv : J 7 p < 0) (ev : v = -1 - J 7 p) (hj : (if J 140 v = -1 then zup J 140 v t else J) = J') (hz : (if J 140 v = -1 ∨ J 140 v = t then 1 else 0) = z) : MAN (cmt J (k + 1) (J 140) p t) z J' := by
  unfold cmt
  rw [mtO_s, if_pos hv, ← ev]
  by_cases e : J 140 v = -1
  · rw [if_pos e] at hj ⊢
    rw [if_pos (Or.inl e)] at hz
    rw [← hj]
    exact ⟨Or.inl ⟨rfl, hz.symm⟩, rfl⟩
  · rw [if_neg e] at hj ⊢
    rw [← hj]
    by_cases f : J 140 v = t
    · rw [if_pos (Or.inr f)] at hz
      exact ⟨Or.inl ⟨decide_eq_true f, hz.symm⟩, rfl⟩
    · rw [if_neg (fun q => q.elim e f)] at hz
      exact ⟨Or.inr ⟨decide_eq_false f, hz.symm⟩, rfl⟩
theorem MAN.n {J : zJ} {k : Nat} {p t : Int} (hv : ¬ J 7 p < 0) (hn : ¬ J 7 p = J 7 t) : MAN (cmt J (k + 1) (J 140) p t) 0 J := by
  unfold cmt
  rw [mtO_s, if_neg hv, if_neg hn]
  exact ⟨Or.inr ⟨rfl, rfl⟩, rfl⟩
/-- the parts of a term, up to the i-th -/
def cmF (J : zJ) (k : Nat) (p t i : Int) : Bool × (Int → Int) := mtF (fun σ i => cmt J k σ (cag J p i) (cag J t i)) i.toNat (J 140)
theorem cmF_0 {J : zJ} {k : Nat} {p t : Int} : cmF J k p t 0 = (true, J 140) := rfl
theorem cmF_s {J : zJ} {k : Nat} {p t i : Int} {τ : Int → Int} (hi : 0 ≤ i) (h : cmF J k p t i = (true, τ)) : cmF J k p t (i + 1) = cmt J k τ (cag J p i) (cag J t i) := by
  unfold cmF at *
  rw [show (i + 1).toNat = i.toNat + 1 from by omega, mtF_s, h, if_pos rfl]
  dsimp only
  rw [Int.toNat_of_nonneg hi]
theorem cmF_f {J : zJ} {k : Nat} {p t i n : Int} (hi : 0 ≤ i ∧ i ≤ n) (h : (cmF J k p t i).1 = false) : cmF J k p t n = cmF J k p t i := by
  unfold cmF at *
  rw [show n.toNat = i.toNat + (n.toNat - i.toNat) from by omega]
  exact mtF_f h _
theorem cmt_F {J : zJ} {k : Nat} {p t : Int} (hv : ¬ J 7 p < 0) (hn : J 7 p = J 7 t) : cmt J (k + 1) (J 140) p t = cmF J k p t (J 8 p) := by
  show mtO _ _ _ _ _ _ _ = _
  rw [mtO_s, if_neg hv, if_pos hn]
  rfl
theorem MAN.e {J J1 : zJ} {k : Nat} {p t i : Int} (hv : ¬ J 7 p < 0) (hn : J 7 p = J 7 t) (hi : i = J 8 p) (x : cmF J k p t i = (true, J1 140)) : MAN (cmt J (k + 1) (J 140) p t) 1 J1 := by
  rw [cmt_F hv hn, ← hi, x]
  exact ⟨Or.inl ⟨rfl, rfl⟩, rfl⟩
theorem MAN.f {J J1 J2 : zJ} {k : Nat} {p t i z : Int} (hv : ¬ J 7 p < 0) (hn : J 7 p = J 7 t) (hi : 0 ≤ i ∧ i < J 8 p) (x : cmF J k p t i = (true, J1 140)) (a : MAN (cmt J k (J1 140) (cag J p i) (cag J t i)) z J2) (hz : z = 0) : MAN (cmt J (k + 1) (J 140) p t) 0 J2 := by
  have s := cmF_s hi.1 x
  have h1 : (cmt J k (J1 140) (cag J p i) (cag J t i)).1 = false := by
    rcases a.1 with q | q
    · omega
    · exact q.1
  rw [cmt_F hv hn, cmF_f (i := i + 1) (by omega) (by rw [s]; exact h1), s]
  exact ⟨Or.inr ⟨h1, rfl⟩, a.2⟩
theorem cmF_n {J J1 J2 : zJ} {k : Nat} {p t i z : Int} (hi : 0 ≤ i) (x : cmF J k p t i = (true, J1 140)) (a : MAN (cmt J k (J1 140) (cag J p i) (cag J t i)) z J2) (hz : ¬ z = 0) : cmF J k p t (i + 1) = (true, J2 140) := by
  rw [cmF_s hi x]
  rcases a.1 with q | q
  · exact Prod.ext q.1 a.2.symm
  · exact absurd q.2 hz
set_option maxHeartbeats 4000000 in
set_option maxRecDepth 100000 in
theorem x_fits7 {l : Launch} {G : tb_G} (hl : l.stackTraces = false) (n : Nat) (J : zJ) (p : Int) (t : Int) (hr_p : -2147483648 ≤ p ∧ p < 2147483648) (hr_t : -2147483648 ≤ t ∧ t < 2147483648) (m : Int) (C : CT J m) (hp : 0 ≤ p ∧ p < m) (ht : 0 ≤ t ∧ t < m) (hg : gOK (J 140) m) : tz_Ok l G M_X3_fitsPart 0 0 0 [.ref 139, zi p, zi t, zi 7] n J (zqi (fun z J' => MAN (cmt J 0 (J 140) p t) z J' ∧ zOf (zbut [140]) J' J ∧ gOK (J' 140) m)) zN := by
  refine tz_Ok.of hl (by decide +kernel) rfl (tb_c1 rfl) (Nat.le_of_ble_eq_true rfl) ?_
  show tz_At l G M_X3_fitsPart (tb_rm 0 0 0) none (tb_ZM G 0 0 (zQ n 0 (zqi (fun z J' => MAN (cmt J 0 (J 140) p t) z J' ∧ zOf (zbut [140]) J' J ∧ gOK (J' 140) m))) (zX n 0 zN)) 0 0 n J 0 [some (.ref 139), some (zi p), some (zi t), some (zi 7), none] []
  refine tz_iload_n (pc := 0) dX3_fitsPart_0 rfl rfl ?_
  refine tz_bipush (pc := 1) dX3_fitsPart_1 (by decide) ?_
  refine tz_icmp_leF (pc := 3) (tgt := 8) (by decide) dX3_fitsPart_3 (by decide) (by decide) (by decide) ?_
  refine tz_iconst (pc := 6) dX3_fitsPart_6 ?_
  exact tz_zret (pc := 7) (z := 0) dX3_fitsPart_7 rfl (Or.inl rfl) (Nat.le_of_ble_eq_true rfl) (Nat.le_of_ble_eq_true rfl) ⟨Nat.le_refl _, Nat.le_add_right _ _⟩ ⟨_, rfl, (by decide), ⟨⟨Or.inr ⟨rfl, rfl⟩, rfl⟩, zOf.rf, hg⟩⟩

set_option maxHeartbeats 4000000 in
set_option maxRecDepth 100000 in
theorem x_fits6 {l : Launch} {G : tb_G} (hl : l.stackTraces = false) (n : Nat) (J : zJ) (p : Int) (t : Int) (hr_p : -2147483648 ≤ p ∧ p < 2147483648) (hr_t : -2147483648 ≤ t ∧ t < 2147483648) (m : Int) (C : CT J m) (hp : 0 ≤ p ∧ p < m) (ht : 0 ≤ t ∧ t < m) (hg : gOK (J 140) m) : tz_Ok l G M_X3_fitsPart 1 0 0 [.ref 139, zi p, zi t, zi 6] n J (zqi (fun z J' => MAN (cmt J 1 (J 140) p t) z J' ∧ zOf (zbut [140]) J' J ∧ gOK (J' 140) m)) zN := by
  refine tz_Ok.of hl (by decide +kernel) rfl (tb_c1 rfl) (Nat.le_of_ble_eq_true rfl) ?_
  show tz_At l G M_X3_fitsPart (tb_rm 1 0 0) none (tb_ZM G 0 0 (zQ n 0 (zqi (fun z J' => MAN (cmt J 1 (J 140) p t) z J' ∧ zOf (zbut [140]) J' J ∧ gOK (J' 140) m))) (zX n 0 zN)) 0 0 n J 0 [some (.ref 139), some (zi p), some (zi t), some (zi 6), none] []
  have hm := C.told
  have ha := C.ar hp.1 hp.2
  refine tz_iload_n (pc := 0) dX3_fitsPart_0 rfl rfl ?_
  refine tz_bipush (pc := 1) dX3_fitsPart_1 (by decide) ?_
  refine tz_icmp_leT (pc := 3) (tgt := 8) (by decide) dX3_fitsPart_3 (by decide) (by decide) (by decide) ?_
  refine tz_aload_n (pc := 8) dX3_fitsPart_8 rfl rfl ?_
  refine tz_fR (pc := 9) dX3_fitsPart_9 fl_X3_15 r_139_0 ?_
  refine tz_iload_n (pc := 12) dX3_fitsPart_12 rfl rfl ?_
  refine tz_cV (pc := 13) (c_isVar hl n _ _ (by omega) (by omega)) vl_X3_29 dX3_fitsPart_13 o_6 rfl rfl (Nat.le_of_ble_eq_true rfl) ⟨(Nat.le_of_ble_eq_true rfl), (Nat.le_of_ble_eq_true rfl)⟩ rfl rfl (Nat.le_of_ble_eq_true rfl) (Nat.le_of_ble_eq_true rfl) (fun r9 J_13 hq9 => ?_)
  obtain ⟨z_13, rfl, hz_13, rfl, rfl⟩ := hq9
  by_cases hw_16 : J 7 p < 0
  · rw [show (if J 7 p < 0 then 1 else 0 : Int) = 1 from if_pos hw_16]
    refine tz_if_eqF (pc := 16) (tgt := 36) (by decide) dX3_fitsPart_16 (by decide) (by decide) ?_
    refine tz_aload_n (pc := 19) dX3_fitsPart_19 rfl rfl ?_
    refine tz_aload_n (pc := 20) dX3_fitsPart_20 rfl rfl ?_
    refine tz_fR (pc := 21) dX3_fitsPart_21 fl_X3_15 r_139_0 ?_
    refine tz_fR (pc := 24) dX3_fitsPart_24 fl_X3_35 r_6_1 ?_
    refine tz_iload_n (pc := 27) dX3_fitsPart_27 rfl rfl ?_
    refine tz_aL (pc := 28) (z := p) (v := (J 7 p)) dX3_fitsPart_28 a_7 rfl (by omega) rfl (fun r_28 => ?_)
    refine tz_iconst (pc := 29) dX3_fitsPart_29 ?_
    refine tz_ixor (pc := 30) (v := -1 - J 7 p) dX3_fitsPart_30 (z_nn (by omega)) ?_
    refine tz_iload_n (pc := 31) dX3_fitsPart_31 rfl rfl ?_
    refine tz_cV (pc := 32) (c_takes hl n _ _ _ (by omega) (by omega) (by omega)) vl_X3_38 dX3_fitsPart_32 o_139 rfl rfl (Nat.le_of_ble_eq_true rfl) ⟨(Nat.le_of_ble_eq_true rfl), (Nat.le_of_ble_eq_true rfl)⟩ rfl rfl (Nat.le_of_ble_eq_true rfl) (Nat.le_of_ble_eq_true rfl) (fun r9 J_32 hq9 => ?_)
    obtain ⟨z_32, rfl, hz_32, hj, hz⟩ := hq9
    have mv := MAN.v (k := 0) (p := p) (by omega) rfl hj hz
    exact tz_zret (pc := 35) (z := z_32) dX3_fitsPart_35 rfl (by omega) (Nat.le_of_ble_eq_true rfl) (Nat.le_of_ble_eq_true rfl) ⟨Nat.le_refl _, Nat.le_add_right _ _⟩ ⟨_, rfl, (by omega), ⟨mv, by rw [← hj]; exact zOf_tk, by rw [← hj]; exact hg.tk ht⟩⟩
  · rw [show (if J 7 p < 0 then 1 else 0 : Int) = 0 from if_neg hw_16]
    refine tz_if_eqT (pc := 16) (tgt := 36) (by decide) dX3_fitsPart_16 (by decide) (by decide) ?_
    refine tz_aload_n (pc := 36) dX3_fitsPart_36 rfl rfl ?_
    refine tz_fR (pc := 37) dX3_fitsPart_37 fl_X3_15 r_139_0 ?_
    refine tz_fR (pc := 40) dX3_fitsPart_40 fl_X3_35 r_6_1 ?_
    refine tz_iload_n (pc := 43) dX3_fitsPart_43 rfl rfl ?_
    refine tz_aL (pc := 44) (z := p) (v := (J 7 p)) dX3_fitsPart_44 a_7 rfl (by omega) rfl (fun r_44 => ?_)
    refine tz_aload_n (pc := 45) dX3_fitsPart_45 rfl rfl ?_
    refine tz_fR (pc := 46) dX3_fitsPart_46 fl_X3_15 r_139_0 ?_
    refine tz_fR (pc := 49) dX3_fitsPart_49 fl_X3_35 r_6_1 ?_
    refine tz_iload_n (pc := 52) dX3_fitsPart_52 rfl rfl ?_
    refine tz_aL (pc := 53) (z := t) (v := (J 7 t)) dX3_fitsPart_53 a_7 rfl (by omega) rfl (fun r_53 => ?_)
    refine tz_icmp_eq (pc := 54) (tgt := 59) dX3_fitsPart_54 (by decide) (by omega) (by omega) (fun h_54 => ?_) (fun h_54 => ?_)
    · refine tz_iconst (pc := 59) dX3_fitsPart_59 ?_
      refine tz_istore (pc := 60) (L2 := [_, _, _, _, _]) dX3_fitsPart_60 (by decide) rfl ?_
      have loop62 : ∀ (f9 : Nat) (i : Int) (J1 : zJ), ((3 - i).toNat) < f9 → (0 ≤ i ∧ i ≤ J 8 p) → (zOf (zbut [140]) J1 J) → (gOK (J1 140) m) → (cmF J 0 p t i = (true, J1 140)) → tz_At l G M_X3_fitsPart (tb_rm 1 0 0) none (tb_ZM G 0 0 (zQ n 0 (zqi (fun z J' => MAN (cmt J 1 (J 140) p t) z J' ∧ zOf (zbut [140]) J' J ∧ gOK (J' 140) m))) (zX n 0 zN)) 0 0 n J1 62 [some (.ref 139), some (zi p), some (zi t), some (zi 6), some (zi i)] [] := by
        intro f9
        induction f9 with
        | zero => intro i J1 hm9; exact absurd hm9 (Nat.not_lt_zero _)
        | succ f9 ih62 =>
          intro i J1 hm62 hi fr h1 x1
          have he := C.arh hp ht (by omega)
          have e9 := fr 9 rfl
          refine tz_iload (pc := 62) dX3_fitsPart_62 rfl ?_
          refine tz_aload_n (pc := 64) dX3_fitsPart_64 rfl rfl ?_
          refine tz_fR (pc := 65) dX3_fitsPart_65 fl_X3_15 r_139_0 ?_
          refine tz_fR (pc := 68) dX3_fitsPart_68 fl_X3_42 r_6_2 ?_
          refine tz_iload_n (pc := 71) dX3_fitsPart_71 rfl rfl ?_
          refine tz_aL (pc := 72) (z := p) (v := (J 8 p)) dX3_fitsPart_72 a_8 rfl (by omega) (Eq.trans (congrFun (fr 8 rfl) p) rfl) (fun r_72 => ?_)
          refine tz_icmp_ge (pc := 73) (tgt := 114) dX3_fitsPart_73 (by decide) (by omega) (by omega) (fun h_73 => ?_) (fun h_73 => ?_)
          · refine tz_iconst (pc := 114) dX3_fitsPart_114 ?_
            exact tz_zret (pc := 115) (z := 1) dX3_fitsPart_115 rfl (Or.inr rfl) (Nat.le_of_ble_eq_true rfl) (Nat.le_of_ble_eq_true rfl) ⟨Nat.le_refl _, Nat.le_add_right _ _⟩ ⟨_, rfl, (by decide), ⟨MAN.e (by omega) (by omega) (by omega) x1, fr, h1⟩⟩
          · refine tz_aload_n (pc := 76) dX3_fitsPart_76 rfl rfl ?_
            refine tz_aload_n (pc := 77) dX3_fitsPart_77 rfl rfl ?_
            refine tz_fR (pc := 78) dX3_fitsPart_78 fl_X3_15 r_139_0 ?_
            refine tz_iload_n (pc := 81) dX3_fitsPart_81 rfl rfl ?_
            refine tz_iload (pc := 82) dX3_fitsPart_82 rfl ?_
            refine tz_cV (pc := 84) (c_arg hl n _ _ _ (by omega) (by omega) (by omega)) vl_X3_45 dX3_fitsPart_84 o_6 rfl rfl (Nat.le_of_ble_eq_true rfl) ⟨(Nat.le_of_ble_eq_true rfl), (Nat.le_of_ble_eq_true rfl)⟩ rfl rfl (Nat.le_of_ble_eq_true rfl) (Nat.le_of_ble_eq_true rfl) (fun r9 J_84 hq9 => ?_)
            obtain ⟨z_84, rfl, hz_84, rfl, rfl⟩ := hq9
            refine tz_aload_n (pc := 87) dX3_fitsPart_87 rfl rfl ?_
            refine tz_fR (pc := 88) dX3_fitsPart_88 fl_X3_15 r_139_0 ?_
            refine tz_iload_n (pc := 91) dX3_fitsPart_91 rfl rfl ?_
            refine tz_iload (pc := 92) dX3_fitsPart_92 rfl ?_
            refine tz_cV (pc := 94) (c_arg hl n _ _ _ (by omega) (by omega) (by omega)) vl_X3_45 dX3_fitsPart_94 o_6 rfl rfl (Nat.le_of_ble_eq_true rfl) ⟨(Nat.le_of_ble_eq_true rfl), (Nat.le_of_ble_eq_true rfl)⟩ rfl rfl (Nat.le_of_ble_eq_true rfl) (Nat.le_of_ble_eq_true rfl) (fun r9 J_94 hq9 => ?_)
            obtain ⟨z_94, rfl, hz_94, rfl, rfl⟩ := hq9
            refine tz_iload_n (pc := 97) dX3_fitsPart_97 rfl rfl ?_
            refine tz_iconst (pc := 98) dX3_fitsPart_98 ?_
            refine tz_iadd (pc := 99) (v := 7) dX3_fitsPart_99 (by decide) ?_
            have g1 := (C.arg (t := p) (i := i) (by omega) (by omega) (by omega) (by omega)).1
            have g2 := (C.arg (t := t) (i := i) (by omega) (by omega) (by omega) (by omega)).1
            rw [← e9] at g1 g2
            refine tz_cV (pc := 100) (x_fits7 hl n _ _ _ (by omega) (by omega) m (C.of (fun c hc => fr c (by simp [zbut]; omega))) (by omega) (by omega) h1) vl_X3_25 dX3_fitsPart_100 o_139 rfl rfl (Nat.le_of_ble_eq_true rfl) ⟨(Nat.le_of_ble_eq_true rfl), (Nat.le_of_ble_eq_true rfl)⟩ rfl rfl (Nat.le_of_ble_eq_true rfl) (Nat.le_of_ble_eq_true rfl) (fun r9 J_100 hq9 => ?_)
            obtain ⟨z_100, rfl, hz_100, a9, f2, h2⟩ := hq9
            have a2 : MAN (cmt J 0 (J1 140) (cag J p i) (cag J t i)) z_100 J_100 := by
              have q9 := a9
              rw [cmt_of fr, show J1 9 = J 9 from e9] at q9
              exact q9
            have zz : z_100 = 0 ∨ z_100 = 1 := a2.1.elim (fun q => Or.inr q.2) (fun q => Or.inl q.2)
            refine tz_if_ne (pc := 103) (tgt := 108) dX3_fitsPart_103 (by decide) (by omega) (fun h_103 => ?_) (fun h_103 => ?_)
            · refine tz_iinc (pc := 108) (z := i + 1) (L2 := [_, _, _, _, _]) dX3_fitsPart_108 rfl (by omega) rfl ?_
              refine tz_goto (pc := 111) (tgt := 62) dX3_fitsPart_111 (by decide) ?_
              exact ih62 (i + 1) _ (by omega) (by omega) (f2.tr fr) h2 (cmF_n (by omega) x1 a2 (by omega))
            · refine tz_iconst (pc := 106) dX3_fitsPart_106 ?_
              exact tz_zret (pc := 107) (z := 0) dX3_fitsPart_107 rfl (Or.inl rfl) (Nat.le_of_ble_eq_true rfl) (Nat.le_of_ble_eq_true rfl) ⟨Nat.le_refl _, Nat.le_add_right _ _⟩ ⟨_, rfl, (by decide), ⟨MAN.f (by omega) (by omega) (by omega) x1 a2 (by omega), f2.tr fr, h2⟩⟩
      exact loop62 _ 0 _ (Nat.lt_succ_self _) (by omega) zOf.rf hg cmF_0
    · refine tz_iconst (pc := 57) dX3_fitsPart_57 ?_
      exact tz_zret (pc := 58) (z := 0) dX3_fitsPart_58 rfl (Or.inl rfl) (Nat.le_of_ble_eq_true rfl) (Nat.le_of_ble_eq_true rfl) ⟨Nat.le_refl _, Nat.le_add_right _ _⟩ ⟨_, rfl, (by decide), ⟨MAN.n (by omega) (by omega), zOf.rf, hg⟩⟩

set_option maxHeartbeats 4000000 in
set_option maxRecDepth 100000 in
theorem x_fits5 {l : Launch} {G : tb_G} (hl : l.stackTraces = false) (n : Nat) (J : zJ) (p : Int) (t : Int) (hr_p : -2147483648 ≤ p ∧ p < 2147483648) (hr_t : -2147483648 ≤ t ∧ t < 2147483648) (m : Int) (C : CT J m) (hp : 0 ≤ p ∧ p < m) (ht : 0 ≤ t ∧ t < m) (hg : gOK (J 140) m) : tz_Ok l G M_X3_fitsPart 2 0 0 [.ref 139, zi p, zi t, zi 5] n J (zqi (fun z J' => MAN (cmt J 2 (J 140) p t) z J' ∧ zOf (zbut [140]) J' J ∧ gOK (J' 140) m)) zN := by
  refine tz_Ok.of hl (by decide +kernel) rfl (tb_c1 rfl) (Nat.le_of_ble_eq_true rfl) ?_
  show tz_At l G M_X3_fitsPart (tb_rm 2 0 0) none (tb_ZM G 0 0 (zQ n 0 (zqi (fun z J' => MAN (cmt J 2 (J 140) p t) z J' ∧ zOf (zbut [140]) J' J ∧ gOK (J' 140) m))) (zX n 0 zN)) 0 0 n J 0 [some (.ref 139), some (zi p), some (zi t), some (zi 5), none] []
  have hm := C.told
  have ha := C.ar hp.1 hp.2
  refine tz_iload_n (pc := 0) dX3_fitsPart_0 rfl rfl ?_
  refine tz_bipush (pc := 1) dX3_fitsPart_1 (by decide) ?_
  refine tz_icmp_leT (pc := 3) (tgt := 8) (by decide) dX3_fitsPart_3 (by decide) (by decide) (by decide) ?_
  refine tz_aload_n (pc := 8) dX3_fitsPart_8 rfl rfl ?_
  refine tz_fR (pc := 9) dX3_fitsPart_9 fl_X3_15 r_139_0 ?_
  refine tz_iload_n (pc := 12) dX3_fitsPart_12 rfl rfl ?_
  refine tz_cV (pc := 13) (c_isVar hl n _ _ (by omega) (by omega)) vl_X3_29 dX3_fitsPart_13 o_6 rfl rfl (Nat.le_of_ble_eq_true rfl) ⟨(Nat.le_of_ble_eq_true rfl), (Nat.le_of_ble_eq_true rfl)⟩ rfl rfl (Nat.le_of_ble_eq_true rfl) (Nat.le_of_ble_eq_true rfl) (fun r9 J_13 hq9 => ?_)
  obtain ⟨z_13, rfl, hz_13, rfl, rfl⟩ := hq9
  by_cases hw_16 : J 7 p < 0
  · rw [show (if J 7 p < 0 then 1 else 0 : Int) = 1 from if_pos hw_16]
    refine tz_if_eqF (pc := 16) (tgt := 36) (by decide) dX3_fitsPart_16 (by decide) (by decide) ?_
    refine tz_aload_n (pc := 19) dX3_fitsPart_19 rfl rfl ?_
    refine tz_aload_n (pc := 20) dX3_fitsPart_20 rfl rfl ?_
    refine tz_fR (pc := 21) dX3_fitsPart_21 fl_X3_15 r_139_0 ?_
    refine tz_fR (pc := 24) dX3_fitsPart_24 fl_X3_35 r_6_1 ?_
    refine tz_iload_n (pc := 27) dX3_fitsPart_27 rfl rfl ?_
    refine tz_aL (pc := 28) (z := p) (v := (J 7 p)) dX3_fitsPart_28 a_7 rfl (by omega) rfl (fun r_28 => ?_)
    refine tz_iconst (pc := 29) dX3_fitsPart_29 ?_
    refine tz_ixor (pc := 30) (v := -1 - J 7 p) dX3_fitsPart_30 (z_nn (by omega)) ?_
    refine tz_iload_n (pc := 31) dX3_fitsPart_31 rfl rfl ?_
    refine tz_cV (pc := 32) (c_takes hl n _ _ _ (by omega) (by omega) (by omega)) vl_X3_38 dX3_fitsPart_32 o_139 rfl rfl (Nat.le_of_ble_eq_true rfl) ⟨(Nat.le_of_ble_eq_true rfl), (Nat.le_of_ble_eq_true rfl)⟩ rfl rfl (Nat.le_of_ble_eq_true rfl) (Nat.le_of_ble_eq_true rfl) (fun r9 J_32 hq9 => ?_)
    obtain ⟨z_32, rfl, hz_32, hj, hz⟩ := hq9
    have mv := MAN.v (k := 1) (p := p) (by omega) rfl hj hz
    exact tz_zret (pc := 35) (z := z_32) dX3_fitsPart_35 rfl (by omega) (Nat.le_of_ble_eq_true rfl) (Nat.le_of_ble_eq_true rfl) ⟨Nat.le_refl _, Nat.le_add_right _ _⟩ ⟨_, rfl, (by omega), ⟨mv, by rw [← hj]; exact zOf_tk, by rw [← hj]; exact hg.tk ht⟩⟩
  · rw [show (if J 7 p < 0 then 1 else 0 : Int) = 0 from if_neg hw_16]
    refine tz_if_eqT (pc := 16) (tgt := 36) (by decide) dX3_fitsPart_16 (by decide) (by decide) ?_
    refine tz_aload_n (pc := 36) dX3_fitsPart_36 rfl rfl ?_
    refine tz_fR (pc := 37) dX3_fitsPart_37 fl_X3_15 r_139_0 ?_
    refine tz_fR (pc := 40) dX3_fitsPart_40 fl_X3_35 r_6_1 ?_
    refine tz_iload_n (pc := 43) dX3_fitsPart_43 rfl rfl ?_
    refine tz_aL (pc := 44) (z := p) (v := (J 7 p)) dX3_fitsPart_44 a_7 rfl (by omega) rfl (fun r_44 => ?_)
    refine tz_aload_n (pc := 45) dX3_fitsPart_45 rfl rfl ?_
    refine tz_fR (pc := 46) dX3_fitsPart_46 fl_X3_15 r_139_0 ?_
    refine tz_fR (pc := 49) dX3_fitsPart_49 fl_X3_35 r_6_1 ?_
    refine tz_iload_n (pc := 52) dX3_fitsPart_52 rfl rfl ?_
    refine tz_aL (pc := 53) (z := t) (v := (J 7 t)) dX3_fitsPart_53 a_7 rfl (by omega) rfl (fun r_53 => ?_)
    refine tz_icmp_eq (pc := 54) (tgt := 59) dX3_fitsPart_54 (by decide) (by omega) (by omega) (fun h_54 => ?_) (fun h_54 => ?_)
    · refine tz_iconst (pc := 59) dX3_fitsPart_59 ?_
      refine tz_istore (pc := 60) (L2 := [_, _, _, _, _]) dX3_fitsPart_60 (by decide) rfl ?_
      have loop62 : ∀ (f9 : Nat) (i : Int) (J1 : zJ), ((3 - i).toNat) < f9 → (0 ≤ i ∧ i ≤ J 8 p) → (zOf (zbut [140]) J1 J) → (gOK (J1 140) m) → (cmF J 1 p t i = (true, J1 140)) → tz_At l G M_X3_fitsPart (tb_rm 2 0 0) none (tb_ZM G 0 0 (zQ n 0 (zqi (fun z J' => MAN (cmt J 2 (J 140) p t) z J' ∧ zOf (zbut [140]) J' J ∧ gOK (J' 140) m))) (zX n 0 zN)) 0 0 n J1 62 [some (.ref 139), some (zi p), some (zi t), some (zi 5), some (zi i)] [] := by
        intro f9
        induction f9 with
        | zero => intro i J1 hm9; exact absurd hm9 (Nat.not_lt_zero _)
        | succ f9 ih62 =>
          intro i J1 hm62 hi fr h1 x1
          have he := C.arh hp ht (by omega)
          have e9 := fr 9 rfl
          refine tz_iload (pc := 62) dX3_fitsPart_62 rfl ?_
          refine tz_aload_n (pc := 64) dX3_fitsPart_64 rfl rfl ?_
          refine tz_fR (pc := 65) dX3_fitsPart_65 fl_X3_15 r_139_0 ?_
          refine tz_fR (pc := 68) dX3_fitsPart_68 fl_X3_42 r_6_2 ?_
          refine tz_iload_n (pc := 71) dX3_fitsPart_71 rfl rfl ?_
          refine tz_aL (pc := 72) (z := p) (v := (J 8 p)) dX3_fitsPart_72 a_8 rfl (by omega) (Eq.trans (congrFun (fr 8 rfl) p) rfl) (fun r_72 => ?_)
          refine tz_icmp_ge (pc := 73) (tgt := 114) dX3_fitsPart_73 (by decide) (by omega) (by omega) (fun h_73 => ?_) (fun h_73 => ?_)
          · refine tz_iconst (pc := 114) dX3_fitsPart_114 ?_
            exact tz_zret (pc := 115) (z := 1) dX3_fitsPart_115 rfl (Or.inr rfl) (Nat.le_of_ble_eq_true rfl) (Nat.le_of_ble_eq_true rfl) ⟨Nat.le_refl _, Nat.le_add_right _ _⟩ ⟨_, rfl, (by decide), ⟨MAN.e (by omega) (by omega) (by omega) x1, fr, h1⟩⟩
          · refine tz_aload_n (pc := 76) dX3_fitsPart_76 rfl rfl ?_
            refine tz_aload_n (pc := 77) dX3_fitsPart_77 rfl rfl ?_
            refine tz_fR (pc := 78) dX3_fitsPart_78 fl_X3_15 r_139_0 ?_
            refine tz_iload_n (pc := 81) dX3_fitsPart_81 rfl rfl ?_
            refine tz_iload (pc := 82) dX3_fitsPart_82 rfl ?_
            refine tz_cV (pc := 84) (c_arg hl n _ _ _ (by omega) (by omega) (by omega)) vl_X3_45 dX3_fitsPart_84 o_6 rfl rfl (Nat.le_of_ble_eq_true rfl) ⟨(Nat.le_of_ble_eq_true rfl), (Nat.le_of_ble_eq_true rfl)⟩ rfl rfl (Nat.le_of_ble_eq_true rfl) (Nat.le_of_ble_eq_true rfl) (fun r9 J_84 hq9 => ?_)
            obtain ⟨z_84, rfl, hz_84, rfl, rfl⟩ := hq9
            refine tz_aload_n (pc := 87) dX3_fitsPart_87 rfl rfl ?_
            refine tz_fR (pc := 88) dX3_fitsPart_88 fl_X3_15 r_139_0 ?_
            refine tz_iload_n (pc := 91) dX3_fitsPart_91 rfl rfl ?_
            refine tz_iload (pc := 92) dX3_fitsPart_92 rfl ?_
            refine tz_cV (pc := 94) (c_arg hl n _ _ _ (by omega) (by omega) (by omega)) vl_X3_45 dX3_fitsPart_94 o_6 rfl rfl (Nat.le_of_ble_eq_true rfl) ⟨(Nat.le_of_ble_eq_true rfl), (Nat.le_of_ble_eq_true rfl)⟩ rfl rfl (Nat.le_of_ble_eq_true rfl) (Nat.le_of_ble_eq_true rfl) (fun r9 J_94 hq9 => ?_)
            obtain ⟨z_94, rfl, hz_94, rfl, rfl⟩ := hq9
            refine tz_iload_n (pc := 97) dX3_fitsPart_97 rfl rfl ?_
            refine tz_iconst (pc := 98) dX3_fitsPart_98 ?_
            refine tz_iadd (pc := 99) (v := 6) dX3_fitsPart_99 (by decide) ?_
            have g1 := (C.arg (t := p) (i := i) (by omega) (by omega) (by omega) (by omega)).1
            have g2 := (C.arg (t := t) (i := i) (by omega) (by omega) (by omega) (by omega)).1
            rw [← e9] at g1 g2
            refine tz_cV (pc := 100) (x_fits6 hl n _ _ _ (by omega) (by omega) m (C.of (fun c hc => fr c (by simp [zbut]; omega))) (by omega) (by omega) h1) vl_X3_25 dX3_fitsPart_100 o_139 rfl rfl (Nat.le_of_ble_eq_true rfl) ⟨(Nat.le_of_ble_eq_true rfl), (Nat.le_of_ble_eq_true rfl)⟩ rfl rfl (Nat.le_of_ble_eq_true rfl) (Nat.le_of_ble_eq_true rfl) (fun r9 J_100 hq9 => ?_)
            obtain ⟨z_100, rfl, hz_100, a9, f2, h2⟩ := hq9
            have a2 : MAN (cmt J 1 (J1 140) (cag J p i) (cag J t i)) z_100 J_100 := by
              have q9 := a9
              rw [cmt_of fr, show J1 9 = J 9 from e9] at q9
              exact q9
            have zz : z_100 = 0 ∨ z_100 = 1 := a2.1.elim (fun q => Or.inr q.2) (fun q => Or.inl q.2)
            refine tz_if_ne (pc := 103) (tgt := 108) dX3_fitsPart_103 (by decide) (by omega) (fun h_103 => ?_) (fun h_103 => ?_)
            · refine tz_iinc (pc := 108) (z := i + 1) (L2 := [_, _, _, _, _]) dX3_fitsPart_108 rfl (by omega) rfl ?_
              refine tz_goto (pc := 111) (tgt := 62) dX3_fitsPart_111 (by decide) ?_
              exact ih62 (i + 1) _ (by omega) (by omega) (f2.tr fr) h2 (cmF_n (by omega) x1 a2 (by omega))
            · refine tz_iconst (pc := 106) dX3_fitsPart_106 ?_
              exact tz_zret (pc := 107) (z := 0) dX3_fitsPart_107 rfl (Or.inl rfl) (Nat.le_of_ble_eq_true rfl) (Nat.le_of_ble_eq_true rfl) ⟨Nat.le_refl _, Nat.le_add_right _ _⟩ ⟨_, rfl, (by decide), ⟨MAN.f (by omega) (by omega) (by omega) x1 a2 (by omega), f2.tr fr, h2⟩⟩
      exact loop62 _ 0 _ (Nat.lt_succ_self _) (by omega) zOf.rf hg cmF_0
    · refine tz_iconst (pc := 57) dX3_fitsPart_57 ?_
      exact tz_zret (pc := 58) (z := 0) dX3_fitsPart_58 rfl (Or.inl rfl) (Nat.le_of_ble_eq_true rfl) (Nat.le_of_ble_eq_true rfl) ⟨Nat.le_refl _, Nat.le_add_right _ _⟩ ⟨_, rfl, (by decide), ⟨MAN.n (by omega) (by omega), zOf.rf, hg⟩⟩

set_option maxHeartbeats 4000000 in
set_option maxRecDepth 100000 in
theorem x_fits4 {l : Launch} {G : tb_G} (hl : l.stackTraces = false) (n : Nat) (J : zJ) (p : Int) (t : Int) (hr_p : -2147483648 ≤ p ∧ p < 2147483648) (hr_t : -2147483648 ≤ t ∧ t < 2147483648) (m : Int) (C : CT J m) (hp : 0 ≤ p ∧ p < m) (ht : 0 ≤ t ∧ t < m) (hg : gOK (J 140) m) : tz_Ok l G M_X3_fitsPart 3 0 0 [.ref 139, zi p, zi t, zi 4] n J (zqi (fun z J' => MAN (cmt J 3 (J 140) p t) z J' ∧ zOf (zbut [140]) J' J ∧ gOK (J' 140) m)) zN := by
  refine tz_Ok.of hl (by decide +kernel) rfl (tb_c1 rfl) (Nat.le_of_ble_eq_true rfl) ?_
  show tz_At l G M_X3_fitsPart (tb_rm 3 0 0) none (tb_ZM G 0 0 (zQ n 0 (zqi (fun z J' => MAN (cmt J 3 (J 140) p t) z J' ∧ zOf (zbut [140]) J' J ∧ gOK (J' 140) m))) (zX n 0 zN)) 0 0 n J 0 [some (.ref 139), some (zi p), some (zi t), some (zi 4), none] []
  have hm := C.told
  have ha := C.ar hp.1 hp.2
  refine tz_iload_n (pc := 0) dX3_fitsPart_0 rfl rfl ?_
  refine tz_bipush (pc := 1) dX3_fitsPart_1 (by decide) ?_
  refine tz_icmp_leT (pc := 3) (tgt := 8) (by decide) dX3_fitsPart_3 (by decide) (by decide) (by decide) ?_
  refine tz_aload_n (pc := 8) dX3_fitsPart_8 rfl rfl ?_
  refine tz_fR (pc := 9) dX3_fitsPart_9 fl_X3_15 r_139_0 ?_
  refine tz_iload_n (pc := 12) dX3_fitsPart_12 rfl rfl ?_
  refine tz_cV (pc := 13) (c_isVar hl n _ _ (by omega) (by omega)) vl_X3_29 dX3_fitsPart_13 o_6 rfl rfl (Nat.le_of_ble_eq_true rfl) ⟨(Nat.le_of_ble_eq_true rfl), (Nat.le_of_ble_eq_true rfl)⟩ rfl rfl (Nat.le_of_ble_eq_true rfl) (Nat.le_of_ble_eq_true rfl) (fun r9 J_13 hq9 => ?_)
  obtain ⟨z_13, rfl, hz_13, rfl, rfl⟩ := hq9
  by_cases hw_16 : J 7 p < 0
  · rw [show (if J 7 p < 0 then 1 else 0 : Int) = 1 from if_pos hw_16]
    refine tz_if_eqF (pc := 16) (tgt := 36) (by decide) dX3_fitsPart_16 (by decide) (by decide) ?_
    refine tz_aload_n (pc := 19) dX3_fitsPart_19 rfl rfl ?_
    refine tz_aload_n (pc := 20) dX3_fitsPart_20 rfl rfl ?_
    refine tz_fR (pc := 21) dX3_fitsPart_21 fl_X3_15 r_139_0 ?_
    refine tz_fR (pc := 24) dX3_fitsPart_24 fl_X3_35 r_6_1 ?_
    refine tz_iload_n (pc := 27) dX3_fitsPart_27 rfl rfl ?_
    refine tz_aL (pc := 28) (z := p) (v := (J 7 p)) dX3_fitsPart_28 a_7 rfl (by omega) rfl (fun r_28 => ?_)
    refine tz_iconst (pc := 29) dX3_fitsPart_29 ?_
    refine tz_ixor (pc := 30) (v := -1 - J 7 p) dX3_fitsPart_30 (z_nn (by omega)) ?_
    refine tz_iload_n (pc := 31) dX3_fitsPart_31 rfl rfl ?_
    refine tz_cV (pc := 32) (c_takes hl n _ _ _ (by omega) (by omega) (by omega)) vl_X3_38 dX3_fitsPart_32 o_139 rfl rfl (Nat.le_of_ble_eq_true rfl) ⟨(Nat.le_of_ble_eq_true rfl), (Nat.le_of_ble_eq_true rfl)⟩ rfl rfl (Nat.le_of_ble_eq_true rfl) (Nat.le_of_ble_eq_true rfl) (fun r9 J_32 hq9 => ?_)
    obtain ⟨z_32, rfl, hz_32, hj, hz⟩ := hq9
    have mv := MAN.v (k := 2) (p := p) (by omega) rfl hj hz
    exact tz_zret (pc := 35) (z := z_32) dX3_fitsPart_35 rfl (by omega) (Nat.le_of_ble_eq_true rfl) (Nat.le_of_ble_eq_true rfl) ⟨Nat.le_refl _, Nat.le_add_right _ _⟩ ⟨_, rfl, (by omega), ⟨mv, by rw [← hj]; exact zOf_tk, by rw [← hj]; exact hg.tk ht⟩⟩
  · rw [show (if J 7 p < 0 then 1 else 0 : Int) = 0 from if_neg hw_16]
    refine tz_if_eqT (pc := 16) (tgt := 36) (by decide) dX3_fitsPart_16 (by decide) (by decide) ?_
    refine tz_aload_n (pc := 36) dX3_fitsPart_36 rfl rfl ?_
    refine tz_fR (pc := 37) dX3_fitsPart_37 fl_X3_15 r_139_0 ?_
    refine tz_fR (pc := 40) dX3_fitsPart_40 fl_X3_35 r_6_1 ?_
    refine tz_iload_n (pc := 43) dX3_fitsPart_43 rfl rfl ?_
    refine tz_aL (pc := 44) (z := p) (v := (J 7 p)) dX3_fitsPart_44 a_7 rfl (by omega) rfl (fun r_44 => ?_)
    refine tz_aload_n (pc := 45) dX3_fitsPart_45 rfl rfl ?_
    refine tz_fR (pc := 46) dX3_fitsPart_46 fl_X3_15 r_139_0 ?_
    refine tz_fR (pc := 49) dX3_fitsPart_49 fl_X3_35 r_6_1 ?_
    refine tz_iload_n (pc := 52) dX3_fitsPart_52 rfl rfl ?_
    refine tz_aL (pc := 53) (z := t) (v := (J 7 t)) dX3_fitsPart_53 a_7 rfl (by omega) rfl (fun r_53 => ?_)
    refine tz_icmp_eq (pc := 54) (tgt := 59) dX3_fitsPart_54 (by decide) (by omega) (by omega) (fun h_54 => ?_) (fun h_54 => ?_)
    · refine tz_iconst (pc := 59) dX3_fitsPart_59 ?_
      refine tz_istore (pc := 60) (L2 := [_, _, _, _, _]) dX3_fitsPart_60 (by decide) rfl ?_
      have loop62 : ∀ (f9 : Nat) (i : Int) (J1 : zJ), ((3 - i).toNat) < f9 → (0 ≤ i ∧ i ≤ J 8 p) → (zOf (zbut [140]) J1 J) → (gOK (J1 140) m) → (cmF J 2 p t i = (true, J1 140)) → tz_At l G M_X3_fitsPart (tb_rm 3 0 0) none (tb_ZM G 0 0 (zQ n 0 (zqi (fun z J' => MAN (cmt J 3 (J 140) p t) z J' ∧ zOf (zbut [140]) J' J ∧ gOK (J' 140) m))) (zX n 0 zN)) 0 0 n J1 62 [some (.ref 139), some (zi p), some (zi t), some (zi 4), some (zi i)] [] := by
        intro f9
        induction f9 with
        | zero => intro i J1 hm9; exact absurd hm9 (Nat.not_lt_zero _)
        | succ f9 ih62 =>
          intro i J1 hm62 hi fr h1 x1
          have he := C.arh hp ht (by omega)
          have e9 := fr 9 rfl
          refine tz_iload (pc := 62) dX3_fitsPart_62 rfl ?_
          refine tz_aload_n (pc := 64) dX3_fitsPart_64 rfl rfl ?_
          refine tz_fR (pc := 65) dX3_fitsPart_65 fl_X3_15 r_139_0 ?_
          refine tz_fR (pc := 68) dX3_fitsPart_68 fl_X3_42 r_6_2 ?_
          refine tz_iload_n (pc := 71) dX3_fitsPart_71 rfl rfl ?_
          refine tz_aL (pc := 72) (z := p) (v := (J 8 p)) dX3_fitsPart_72 a_8 rfl (by omega) (Eq.trans (congrFun (fr 8 rfl) p) rfl) (fun r_72 => ?_)
          refine tz_icmp_ge (pc := 73) (tgt := 114) dX3_fitsPart_73 (by decide) (by omega) (by omega) (fun h_73 => ?_) (fun h_73 => ?_)
          · refine tz_iconst (pc := 114) dX3_fitsPart_114 ?_
            exact tz_zret (pc := 115) (z := 1) dX3_fitsPart_115 rfl (Or.inr rfl) (Nat.le_of_ble_eq_true rfl) (Nat.le_of_ble_eq_true rfl) ⟨Nat.le_refl _, Nat.le_add_right _ _⟩ ⟨_, rfl, (by decide), ⟨MAN.e (by omega) (by omega) (by omega) x1, fr, h1⟩⟩
          · refine tz_aload_n (pc := 76) dX3_fitsPart_76 rfl rfl ?_
            refine tz_aload_n (pc := 77) dX3_fitsPart_77 rfl rfl ?_
            refine tz_fR (pc := 78) dX3_fitsPart_78 fl_X3_15 r_139_0 ?_
            refine tz_iload_n (pc := 81) dX3_fitsPart_81 rfl rfl ?_
            refine tz_iload (pc := 82) dX3_fitsPart_82 rfl ?_
            refine tz_cV (pc := 84) (c_arg hl n _ _ _ (by omega) (by omega) (by omega)) vl_X3_45 dX3_fitsPart_84 o_6 rfl rfl (Nat.le_of_ble_eq_true rfl) ⟨(Nat.le_of_ble_eq_true rfl), (Nat.le_of_ble_eq_true rfl)⟩ rfl rfl (Nat.le_of_ble_eq_true rfl) (Nat.le_of_ble_eq_true rfl) (fun r9 J_84 hq9 => ?_)
            obtain ⟨z_84, rfl, hz_84, rfl, rfl⟩ := hq9
            refine tz_aload_n (pc := 87) dX3_fitsPart_87 rfl rfl ?_
            refine tz_fR (pc := 88) dX3_fitsPart_88 fl_X3_15 r_139_0 ?_
            refine tz_iload_n (pc := 91) dX3_fitsPart_91 rfl rfl ?_
            refine tz_iload (pc := 92) dX3_fitsPart_92 rfl ?_
            refine tz_cV (pc := 94) (c_arg hl n _ _ _ (by omega) (by omega) (by omega)) vl_X3_45 dX3_fitsPart_94 o_6 rfl rfl (Nat.le_of_ble_eq_true rfl) ⟨(Nat.le_of_ble_eq_true rfl), (Nat.le_of_ble_eq_true rfl)⟩ rfl rfl (Nat.le_of_ble_eq_true rfl) (Nat.le_of_ble_eq_true rfl) (fun r9 J_94 hq9 => ?_)
            obtain ⟨z_94, rfl, hz_94, rfl, rfl⟩ := hq9
            refine tz_iload_n (pc := 97) dX3_fitsPart_97 rfl rfl ?_
            refine tz_iconst (pc := 98) dX3_fitsPart_98 ?_
            refine tz_iadd (pc := 99) (v := 5) dX3_fitsPart_99 (by decide) ?_
            have g1 := (C.arg (t := p) (i := i) (by omega) (by omega) (by omega) (by omega)).1
            have g2 := (C.arg (t := t) (i := i) (by omega) (by omega) (by omega) (by omega)).1
            rw [← e9] at g1 g2
            refine tz_cV (pc := 100) (x_fits5 hl n _ _ _ (by omega) (by omega) m (C.of (fun c hc => fr c (by simp [zbut]; omega))) (by omega) (by omega) h1) vl_X3_25 dX3_fitsPart_100 o_139 rfl rfl (Nat.le_of_ble_eq_true rfl) ⟨(Nat.le_of_ble_eq_true rfl), (Nat.le_of_ble_eq_true rfl)⟩ rfl rfl (Nat.le_of_ble_eq_true rfl) (Nat.le_of_ble_eq_true rfl) (fun r9 J_100 hq9 => ?_)
            obtain ⟨z_100, rfl, hz_100, a9, f2, h2⟩ := hq9
            have a2 : MAN (cmt J 2 (J1 140) (cag J p i) (cag J t i)) z_100 J_100 := by
              have q9 := a9
              rw [cmt_of fr, show J1 9 = J 9 from e9] at q9
              exact q9
            have zz : z_100 = 0 ∨ z_100 = 1 := a2.1.elim (fun q => Or.inr q.2) (fun q => Or.inl q.2)
            refine tz_if_ne (pc := 103) (tgt := 108) dX3_fitsPart_103 (by decide) (by omega) (fun h_103 => ?_) (fun h_103 => ?_)
            · refine tz_iinc (pc := 108) (z := i + 1) (L2 := [_, _, _, _, _]) dX3_fitsPart_108 rfl (by omega) rfl ?_
              refine tz_goto (pc := 111) (tgt := 62) dX3_fitsPart_111 (by decide) ?_
              exact ih62 (i + 1) _ (by omega) (by omega) (f2.tr fr) h2 (cmF_n (by omega) x1 a2 (by omega))
            · refine tz_iconst (pc := 106) dX3_fitsPart_106 ?_
              exact tz_zret (pc := 107) (z := 0) dX3_fitsPart_107 rfl (Or.inl rfl) (Nat.le_of_ble_eq_true rfl) (Nat.le_of_ble_eq_true rfl) ⟨Nat.le_refl _, Nat.le_add_right _ _⟩ ⟨_, rfl, (by decide), ⟨MAN.f (by omega) (by omega) (by omega) x1 a2 (by omega), f2.tr fr, h2⟩⟩
      exact loop62 _ 0 _ (Nat.lt_succ_self _) (by omega) zOf.rf hg cmF_0
    · refine tz_iconst (pc := 57) dX3_fitsPart_57 ?_
      exact tz_zret (pc := 58) (z := 0) dX3_fitsPart_58 rfl (Or.inl rfl) (Nat.le_of_ble_eq_true rfl) (Nat.le_of_ble_eq_true rfl) ⟨Nat.le_refl _, Nat.le_add_right _ _⟩ ⟨_, rfl, (by decide), ⟨MAN.n (by omega) (by omega), zOf.rf, hg⟩⟩

set_option maxHeartbeats 4000000 in
set_option maxRecDepth 100000 in
theorem x_fits3 {l : Launch} {G : tb_G} (hl : l.stackTraces = false) (n : Nat) (J : zJ) (p : Int) (t : Int) (hr_p : -2147483648 ≤ p ∧ p < 2147483648) (hr_t : -2147483648 ≤ t ∧ t < 2147483648) (m : Int) (C : CT J m) (hp : 0 ≤ p ∧ p < m) (ht : 0 ≤ t ∧ t < m) (hg : gOK (J 140) m) : tz_Ok l G M_X3_fitsPart 4 0 0 [.ref 139, zi p, zi t, zi 3] n J (zqi (fun z J' => MAN (cmt J 4 (J 140) p t) z J' ∧ zOf (zbut [140]) J' J ∧ gOK (J' 140) m)) zN := by
  refine tz_Ok.of hl (by decide +kernel) rfl (tb_c1 rfl) (Nat.le_of_ble_eq_true rfl) ?_
  show tz_At l G M_X3_fitsPart (tb_rm 4 0 0) none (tb_ZM G 0 0 (zQ n 0 (zqi (fun z J' => MAN (cmt J 4 (J 140) p t) z J' ∧ zOf (zbut [140]) J' J ∧ gOK (J' 140) m))) (zX n 0 zN)) 0 0 n J 0 [some (.ref 139), some (zi p), some (zi t), some (zi 3), none] []
  have hm := C.told
  have ha := C.ar hp.1 hp.2
  refine tz_iload_n (pc := 0) dX3_fitsPart_0 rfl rfl ?_
  refine tz_bipush (pc := 1) dX3_fitsPart_1 (by decide) ?_
  refine tz_icmp_leT (pc := 3) (tgt := 8) (by decide) dX3_fitsPart_3 (by decide) (by decide) (by decide) ?_
  refine tz_aload_n (pc := 8) dX3_fitsPart_8 rfl rfl ?_
  refine tz_fR (pc := 9) dX3_fitsPart_9 fl_X3_15 r_139_0 ?_
  refine tz_iload_n (pc := 12) dX3_fitsPart_12 rfl rfl ?_
  refine tz_cV (pc := 13) (c_isVar hl n _ _ (by omega) (by omega)) vl_X3_29 dX3_fitsPart_13 o_6 rfl rfl (Nat.le_of_ble_eq_true rfl) ⟨(Nat.le_of_ble_eq_true rfl), (Nat.le_of_ble_eq_true rfl)⟩ rfl rfl (Nat.le_of_ble_eq_true rfl) (Nat.le_of_ble_eq_true rfl) (fun r9 J_13 hq9 => ?_)
  obtain ⟨z_13, rfl, hz_13, rfl, rfl⟩ := hq9
  by_cases hw_16 : J 7 p < 0
  · rw [show (if J 7 p < 0 then 1 else 0 : Int) = 1 from if_pos hw_16]
    refine tz_if_eqF (pc := 16) (tgt := 36) (by decide) dX3_fitsPart_16 (by decide) (by decide) ?_
    refine tz_aload_n (pc := 19) dX3_fitsPart_19 rfl rfl ?_
    refine tz_aload_n (pc := 20) dX3_fitsPart_20 rfl rfl ?_
    refine tz_fR (pc := 21) dX3_fitsPart_21 fl_X3_15 r_139_0 ?_
    refine tz_fR (pc := 24) dX3_fitsPart_24 fl_X3_35 r_6_1 ?_
    refine tz_iload_n (pc := 27) dX3_fitsPart_27 rfl rfl ?_
    refine tz_aL (pc := 28) (z := p) (v := (J 7 p)) dX3_fitsPart_28 a_7 rfl (by omega) rfl (fun r_28 => ?_)
    refine tz_iconst (pc := 29) dX3_fitsPart_29 ?_
    refine tz_ixor (pc := 30) (v := -1 - J 7 p) dX3_fitsPart_30 (z_nn (by omega)) ?_
    refine tz_iload_n (pc := 31) dX3_fitsPart_31 rfl rfl ?_
    refine tz_cV (pc := 32) (c_takes hl n _ _ _ (by omega) (by omega) (by omega)) vl_X3_38 dX3_fitsPart_32 o_139 rfl rfl (Nat.le_of_ble_eq_true rfl) ⟨(Nat.le_of_ble_eq_true rfl), (Nat.le_of_ble_eq_true rfl)⟩ rfl rfl (Nat.le_of_ble_eq_true rfl) (Nat.le_of_ble_eq_true rfl) (fun r9 J_32 hq9 => ?_)
    obtain ⟨z_32, rfl, hz_32, hj, hz⟩ := hq9
    have mv := MAN.v (k := 3) (p := p) (by omega) rfl hj hz
    exact tz_zret (pc := 35) (z := z_32) dX3_fitsPart_35 rfl (by omega) (Nat.le_of_ble_eq_true rfl) (Nat.le_of_ble_eq_true rfl) ⟨Nat.le_refl _, Nat.le_add_right _ _⟩ ⟨_, rfl, (by omega), ⟨mv, by rw [← hj]; exact zOf_tk, by rw [← hj]; exact hg.tk ht⟩⟩
  · rw [show (if J 7 p < 0 then 1 else 0 : Int) = 0 from if_neg hw_16]
    refine tz_if_eqT (pc := 16) (tgt := 36) (by decide) dX3_fitsPart_16 (by decide) (by decide) ?_
    refine tz_aload_n (pc := 36) dX3_fitsPart_36 rfl rfl ?_
    refine tz_fR (pc := 37) dX3_fitsPart_37 fl_X3_15 r_139_0 ?_
    refine tz_fR (pc := 40) dX3_fitsPart_40 fl_X3_35 r_6_1 ?_
    refine tz_iload_n (pc := 43) dX3_fitsPart_43 rfl rfl ?_
    refine tz_aL (pc := 44) (z := p) (v := (J 7 p)) dX3_fitsPart_44 a_7 rfl (by omega) rfl (fun r_44 => ?_)
    refine tz_aload_n (pc := 45) dX3_fitsPart_45 rfl rfl ?_
    refine tz_fR (pc := 46) dX3_fitsPart_46 fl_X3_15 r_139_0 ?_
    refine tz_fR (pc := 49) dX3_fitsPart_49 fl_X3_35 r_6_1 ?_
    refine tz_iload_n (pc := 52) dX3_fitsPart_52 rfl rfl ?_
    refine tz_aL (pc := 53) (z := t) (v := (J 7 t)) dX3_fitsPart_53 a_7 rfl (by omega) rfl (fun r_53 => ?_)
    refine tz_icmp_eq (pc := 54) (tgt := 59) dX3_fitsPart_54 (by decide) (by omega) (by omega) (fun h_54 => ?_) (fun h_54 => ?_)
    · refine tz_iconst (pc := 59) dX3_fitsPart_59 ?_
      refine tz_istore (pc := 60) (L2 := [_, _, _, _, _]) dX3_fitsPart_60 (by decide) rfl ?_
      have loop62 : ∀ (f9 : Nat) (i : Int) (J1 : zJ), ((3 - i).toNat) < f9 → (0 ≤ i ∧ i ≤ J 8 p) → (zOf (zbut [140]) J1 J) → (gOK (J1 140) m) → (cmF J 3 p t i = (true, J1 140)) → tz_At l G M_X3_fitsPart (tb_rm 4 0 0) none (tb_ZM G 0 0 (zQ n 0 (zqi (fun z J' => MAN (cmt J 4 (J 140) p t) z J' ∧ zOf (zbut [140]) J' J ∧ gOK (J' 140) m))) (zX n 0 zN)) 0 0 n J1 62 [some (.ref 139), some (zi p), some (zi t), some (zi 3), some (zi i)] [] := by
        intro f9
        induction f9 with
        | zero => intro i J1 hm9; exact absurd hm9 (Nat.not_lt_zero _)
        | succ f9 ih62 =>
          intro i J1 hm62 hi fr h1 x1
          have he := C.arh hp ht (by omega)
          have e9 := fr 9 rfl
          refine tz_iload (pc := 62) dX3_fitsPart_62 rfl ?_
          refine tz_aload_n (pc := 64) dX3_fitsPart_64 rfl rfl ?_
          refine tz_fR (pc := 65) dX3_fitsPart_65 fl_X3_15 r_139_0 ?_
          refine tz_fR (pc := 68) dX3_fitsPart_68 fl_X3_42 r_6_2 ?_
          refine tz_iload_n (pc := 71) dX3_fitsPart_71 rfl rfl ?_
          refine tz_aL (pc := 72) (z := p) (v := (J 8 p)) dX3_fitsPart_72 a_8 rfl (by omega) (Eq.trans (congrFun (fr 8 rfl) p) rfl) (fun r_72 => ?_)
          refine tz_icmp_ge (pc := 73) (tgt := 114) dX3_fitsPart_73 (by decide) (by omega) (by omega) (fun h_73 => ?_) (fun h_73 => ?_)
          · refine tz_iconst (pc := 114) dX3_fitsPart_114 ?_
            exact tz_zret (pc := 115) (z := 1) dX3_fitsPart_115 rfl (Or.inr rfl) (Nat.le_of_ble_eq_true rfl) (Nat.le_of_ble_eq_true rfl) ⟨Nat.le_refl _, Nat.le_add_right _ _⟩ ⟨_, rfl, (by decide), ⟨MAN.e (by omega) (by omega) (by omega) x1, fr, h1⟩⟩
          · refine tz_aload_n (pc := 76) dX3_fitsPart_76 rfl rfl ?_
            refine tz_aload_n (pc := 77) dX3_fitsPart_77 rfl rfl ?_
            refine tz_fR (pc := 78) dX3_fitsPart_78 fl_X3_15 r_139_0 ?_
            refine tz_iload_n (pc := 81) dX3_fitsPart_81 rfl rfl ?_
            refine tz_iload (pc := 82) dX3_fitsPart_82 rfl ?_
            refine tz_cV (pc := 84) (c_arg hl n _ _ _ (by omega) (by omega) (by omega)) vl_X3_45 dX3_fitsPart_84 o_6 rfl rfl (Nat.le_of_ble_eq_true rfl) ⟨(Nat.le_of_ble_eq_true rfl), (Nat.le_of_ble_eq_true rfl)⟩ rfl rfl (Nat.le_of_ble_eq_true rfl) (Nat.le_of_ble_eq_true rfl) (fun r9 J_84 hq9 => ?_)
            obtain ⟨z_84, rfl, hz_84, rfl, rfl⟩ := hq9
            refine tz_aload_n (pc := 87) dX3_fitsPart_87 rfl rfl ?_
            refine tz_fR (pc := 88) dX3_fitsPart_88 fl_X3_15 r_139_0 ?_
            refine tz_iload_n (pc := 91) dX3_fitsPart_91 rfl rfl ?_
            refine tz_iload (pc := 92) dX3_fitsPart_92 rfl ?_
            refine tz_cV (pc := 94) (c_arg hl n _ _ _ (by omega) (by omega) (by omega)) vl_X3_45 dX3_fitsPart_94 o_6 rfl rfl (Nat.le_of_ble_eq_true rfl) ⟨(Nat.le_of_ble_eq_true rfl), (Nat.le_of_ble_eq_true rfl)⟩ rfl rfl (Nat.le_of_ble_eq_true rfl) (Nat.le_of_ble_eq_true rfl) (fun r9 J_94 hq9 => ?_)
            obtain ⟨z_94, rfl, hz_94, rfl, rfl⟩ := hq9
            refine tz_iload_n (pc := 97) dX3_fitsPart_97 rfl rfl ?_
            refine tz_iconst (pc := 98) dX3_fitsPart_98 ?_
            refine tz_iadd (pc := 99) (v := 4) dX3_fitsPart_99 (by decide) ?_
            have g1 := (C.arg (t := p) (i := i) (by omega) (by omega) (by omega) (by omega)).1
            have g2 := (C.arg (t := t) (i := i) (by omega) (by omega) (by omega) (by omega)).1
            rw [← e9] at g1 g2
            refine tz_cV (pc := 100) (x_fits4 hl n _ _ _ (by omega) (by omega) m (C.of (fun c hc => fr c (by simp [zbut]; omega))) (by omega) (by omega) h1) vl_X3_25 dX3_fitsPart_100 o_139 rfl rfl (Nat.le_of_ble_eq_true rfl) ⟨(Nat.le_of_ble_eq_true rfl), (Nat.le_of_ble_eq_true rfl)⟩ rfl rfl (Nat.le_of_ble_eq_true rfl) (Nat.le_of_ble_eq_true rfl) (fun r9 J_100 hq9 => ?_)
            obtain ⟨z_100, rfl, hz_100, a9, f2, h2⟩ := hq9
            have a2 : MAN (cmt J 3 (J1 140) (cag J p i) (cag J t i)) z_100 J_100 := by
              have q9 := a9
              rw [cmt_of fr, show J1 9 = J 9 from e9] at q9
              exact q9
            have zz : z_100 = 0 ∨ z_100 = 1 := a2.1.elim (fun q => Or.inr q.2) (fun q => Or.inl q.2)
            refine tz_if_ne (pc := 103) (tgt := 108) dX3_fitsPart_103 (by decide) (by omega) (fun h_103 => ?_) (fun h_103 => ?_)
            · refine tz_iinc (pc := 108) (z := i + 1) (L2 := [_, _, _, _, _]) dX3_fitsPart_108 rfl (by omega) rfl ?_
              refine tz_goto (pc := 111) (tgt := 62) dX3_fitsPart_111 (by decide) ?_
              exact ih62 (i + 1) _ (by omega) (by omega) (f2.tr fr) h2 (cmF_n (by omega) x1 a2 (by omega))
            · refine tz_iconst (pc := 106) dX3_fitsPart_106 ?_
              exact tz_zret (pc := 107) (z := 0) dX3_fitsPart_107 rfl (Or.inl rfl) (Nat.le_of_ble_eq_true rfl) (Nat.le_of_ble_eq_true rfl) ⟨Nat.le_refl _, Nat.le_add_right _ _⟩ ⟨_, rfl, (by decide), ⟨MAN.f (by omega) (by omega) (by omega) x1 a2 (by omega), f2.tr fr, h2⟩⟩
      exact loop62 _ 0 _ (Nat.lt_succ_self _) (by omega) zOf.rf hg cmF_0
    · refine tz_iconst (pc := 57) dX3_fitsPart_57 ?_
      exact tz_zret (pc := 58) (z := 0) dX3_fitsPart_58 rfl (Or.inl rfl) (Nat.le_of_ble_eq_true rfl) (Nat.le_of_ble_eq_true rfl) ⟨Nat.le_refl _, Nat.le_add_right _ _⟩ ⟨_, rfl, (by decide), ⟨MAN.n (by omega) (by omega), zOf.rf, hg⟩⟩

set_option maxHeartbeats 4000000 in
set_option maxRecDepth 100000 in
theorem x_fits2 {l : Launch} {G : tb_G} (hl : l.stackTraces = false) (n : Nat) (J : zJ) (p : Int) (t : Int) (hr_p : -2147483648 ≤ p ∧ p < 2147483648) (hr_t : -2147483648 ≤ t ∧ t < 2147483648) (m : Int) (C : CT J m) (hp : 0 ≤ p ∧ p < m) (ht : 0 ≤ t ∧ t < m) (hg : gOK (J 140) m) : tz_Ok l G M_X3_fitsPart 5 0 0 [.ref 139, zi p, zi t, zi 2] n J (zqi (fun z J' => MAN (cmt J 5 (J 140) p t) z J' ∧ zOf (zbut [140]) J' J ∧ gOK (J' 140) m)) zN := by
  refine tz_Ok.of hl (by decide +kernel) rfl (tb_c1 rfl) (Nat.le_of_ble_eq_true rfl) ?_
  show tz_At l G M_X3_fitsPart (tb_rm 5 0 0) none (tb_ZM G 0 0 (zQ n 0 (zqi (fun z J' => MAN (cmt J 5 (J 140) p t) z J' ∧ zOf (zbut [140]) J' J ∧ gOK (J' 140) m))) (zX n 0 zN)) 0 0 n J 0 [some (.ref 139), some (zi p), some (zi t), some (zi 2), none] []
  have hm := C.told
  have ha := C.ar hp.1 hp.2
  refine tz_iload_n (pc := 0) dX3_fitsPart_0 rfl rfl ?_
  refine tz_bipush (pc := 1) dX3_fitsPart_1 (by decide) ?_
  refine tz_icmp_leT (pc := 3) (tgt := 8) (by decide) dX3_fitsPart_3 (by decide) (by decide) (by decide) ?_
  refine tz_aload_n (pc := 8) dX3_fitsPart_8 rfl rfl ?_
  refine tz_fR (pc := 9) dX3_fitsPart_9 fl_X3_15 r_139_0 ?_
  refine tz_iload_n (pc := 12) dX3_fitsPart_12 rfl rfl ?_
  refine tz_cV (pc := 13) (c_isVar hl n _ _ (by omega) (by omega)) vl_X3_29 dX3_fitsPart_13 o_6 rfl rfl (Nat.le_of_ble_eq_true rfl) ⟨(Nat.le_of_ble_eq_true rfl), (Nat.le_of_ble_eq_true rfl)⟩ rfl rfl (Nat.le_of_ble_eq_true rfl) (Nat.le_of_ble_eq_true rfl) (fun r9 J_13 hq9 => ?_)
  obtain ⟨z_13, rfl, hz_13, rfl, rfl⟩ := hq9
  by_cases hw_16 : J 7 p < 0
  · rw [show (if J 7 p < 0 then 1 else 0 : Int) = 1 from if_pos hw_16]
    refine tz_if_eqF (pc := 16) (tgt := 36) (by decide) dX3_fitsPart_16 (by decide) (by decide) ?_
    refine tz_aload_n (pc := 19) dX3_fitsPart_19 rfl rfl ?_
    refine tz_aload_n (pc := 20) dX3_fitsPart_20 rfl rfl ?_
    refine tz_fR (pc := 21) dX3_fitsPart_21 fl_X3_15 r_139_0 ?_
    refine tz_fR (pc := 24) dX3_fitsPart_24 fl_X3_35 r_6_1 ?_
    refine tz_iload_n (pc := 27) dX3_fitsPart_27 rfl rfl ?_
    refine tz_aL (pc := 28) (z := p) (v := (J 7 p)) dX3_fitsPart_28 a_7 rfl (by omega) rfl (fun r_28 => ?_)
    refine tz_iconst (pc := 29) dX3_fitsPart_29 ?_
    refine tz_ixor (pc := 30) (v := -1 - J 7 p) dX3_fitsPart_30 (z_nn (by omega)) ?_
    refine tz_iload_n (pc := 31) dX3_fitsPart_31 rfl rfl ?_
    refine tz_cV (pc := 32) (c_takes hl n _ _ _ (by omega) (by omega) (by omega)) vl_X3_38 dX3_fitsPart_32 o_139 rfl rfl (Nat.le_of_ble_eq_true rfl) ⟨(Nat.le_of_ble_eq_true rfl), (Nat.le_of_ble_eq_true rfl)⟩ rfl rfl (Nat.le_of_ble_eq_true rfl) (Nat.le_of_ble_eq_true rfl) (fun r9 J_32 hq9 => ?_)
    obtain ⟨z_32, rfl, hz_32, hj, hz⟩ := hq9
    have mv := MAN.v (k := 4) (p := p) (by omega) rfl hj hz
    exact tz_zret (pc := 35) (z := z_32) dX3_fitsPart_35 rfl (by omega) (Nat.le_of_ble_eq_true rfl) (Nat.le_of_ble_eq_true rfl) ⟨Nat.le_refl _, Nat.le_add_right _ _⟩ ⟨_, rfl, (by omega), ⟨mv, by rw [← hj]; exact zOf_tk, by rw [← hj]; exact hg.tk ht⟩⟩
  · rw [show (if J 7 p < 0 then 1 else 0 : Int) = 0 from if_neg hw_16]
    refine tz_if_eqT (pc := 16) (tgt := 36) (by decide) dX3_fitsPart_16 (by decide) (by decide) ?_
    refine tz_aload_n (pc := 36) dX3_fitsPart_36 rfl rfl ?_
    refine tz_fR (pc := 37) dX3_fitsPart_37 fl_X3_15 r_139_0 ?_
    refine tz_fR (pc := 40) dX3_fitsPart_40 fl_X3_35 r_6_1 ?_
    refine tz_iload_n (pc := 43) dX3_fitsPart_43 rfl rfl ?_
    refine tz_aL (pc := 44) (z := p) (v := (J 7 p)) dX3_fitsPart_44 a_7 rfl (by omega) rfl (fun r_44 => ?_)
    refine tz_aload_n (pc := 45) dX3_fitsPart_45 rfl rfl ?_
    refine tz_fR (pc := 46) dX3_fitsPart_46 fl_X3_15 r_139_0 ?_
    refine tz_fR (pc := 49) dX3_fitsPart_49 fl_X3_35 r_6_1 ?_
    refine tz_iload_n (pc := 52) dX3_fitsPart_52 rfl rfl ?_
    refine tz_aL (pc := 53) (z := t) (v := (J 7 t)) dX3_fitsPart_53 a_7 rfl (by omega) rfl (fun r_53 => ?_)
    refine tz_icmp_eq (pc := 54) (tgt := 59) dX3_fitsPart_54 (by decide) (by omega) (by omega) (fun h_54 => ?_) (fun h_54 => ?_)
    · refine tz_iconst (pc := 59) dX3_fitsPart_59 ?_
      refine tz_istore (pc := 60) (L2 := [_, _, _, _, _]) dX3_fitsPart_60 (by decide) rfl ?_
      have loop62 : ∀ (f9 : Nat) (i : Int) (J1 : zJ), ((3 - i).toNat) < f9 → (0 ≤ i ∧ i ≤ J 8 p) → (zOf (zbut [140]) J1 J) → (gOK (J1 140) m) → (cmF J 4 p t i = (true, J1 140)) → tz_At l G M_X3_fitsPart (tb_rm 5 0 0) none (tb_ZM G 0 0 (zQ n 0 (zqi (fun z J' => MAN (cmt J 5 (J 140) p t) z J' ∧ zOf (zbut [140]) J' J ∧ gOK (J' 140) m))) (zX n 0 zN)) 0 0 n J1 62 [some (.ref 139), some (zi p), some (zi t), some (zi 2), some (zi i)] [] := by
        intro f9
        induction f9 with
        | zero => intro i J1 hm9; exact absurd hm9 (Nat.not_lt_zero _)
        | succ f9 ih62 =>
          intro i J1 hm62 hi fr h1 x1
          have he := C.arh hp ht (by omega)
          have e9 := fr 9 rfl
          refine tz_iload (pc := 62) dX3_fitsPart_62 rfl ?_
          refine tz_aload_n (pc := 64) dX3_fitsPart_64 rfl rfl ?_
          refine tz_fR (pc := 65) dX3_fitsPart_65 fl_X3_15 r_139_0 ?_
          refine tz_fR (pc := 68) dX3_fitsPart_68 fl_X3_42 r_6_2 ?_
          refine tz_iload_n (pc := 71) dX3_fitsPart_71 rfl rfl ?_
          refine tz_aL (pc := 72) (z := p) (v := (J 8 p)) dX3_fitsPart_72 a_8 rfl (by omega) (Eq.trans (congrFun (fr 8 rfl) p) rfl) (fun r_72 => ?_)
          refine tz_icmp_ge (pc := 73) (tgt := 114) dX3_fitsPart_73 (by decide) (by omega) (by omega) (fun h_73 => ?_) (fun h_73 => ?_)
          · refine tz_iconst (pc := 114) dX3_fitsPart_114 ?_
            exact tz_zret (pc := 115) (z := 1) dX3_fitsPart_115 rfl (Or.inr rfl) (Nat.le_of_ble_eq_true rfl) (Nat.le_of_ble_eq_true rfl) ⟨Nat.le_refl _, Nat.le_add_right _ _⟩ ⟨_, rfl, (by decide), ⟨MAN.e (by omega) (by omega) (by omega) x1, fr, h1⟩⟩
          · refine tz_aload_n (pc := 76) dX3_fitsPart_76 rfl rfl ?_
            refine tz_aload_n (pc := 77) dX3_fitsPart_77 rfl rfl ?_
            refine tz_fR (pc := 78) dX3_fitsPart_78 fl_X3_15 r_139_0 ?_
            refine tz_iload_n (pc := 81) dX3_fitsPart_81 rfl rfl ?_
            refine tz_iload (pc := 82) dX3_fitsPart_82 rfl ?_
            refine tz_cV (pc := 84) (c_arg hl n _ _ _ (by omega) (by omega) (by omega)) vl_X3_45 dX3_fitsPart_84 o_6 rfl rfl (Nat.le_of_ble_eq_true rfl) ⟨(Nat.le_of_ble_eq_true rfl), (Nat.le_of_ble_eq_true rfl)⟩ rfl rfl (Nat.le_of_ble_eq_true rfl) (Nat.le_of_ble_eq_true rfl) (fun r9 J_84 hq9 => ?_)
            obtain ⟨z_84, rfl, hz_84, rfl, rfl⟩ := hq9
            refine tz_aload_n (pc := 87) dX3_fitsPart_87 rfl rfl ?_
            refine tz_fR (pc := 88) dX3_fitsPart_88 fl_X3_15 r_139_0 ?_
            refine tz_iload_n (pc := 91) dX3_fitsPart_91 rfl rfl ?_
            refine tz_iload (pc := 92) dX3_fitsPart_92 rfl ?_
            refine tz_cV (pc := 94) (c_arg hl n _ _ _ (by omega) (by omega) (by omega)) vl_X3_45 dX3_fitsPart_94 o_6 rfl rfl (Nat.le_of_ble_eq_true rfl) ⟨(Nat.le_of_ble_eq_true rfl), (Nat.le_of_ble_eq_true rfl)⟩ rfl rfl (Nat.le_of_ble_eq_true rfl) (Nat.le_of_ble_eq_true rfl) (fun r9 J_94 hq9 => ?_)
            obtain ⟨z_94, rfl, hz_94, rfl, rfl⟩ := hq9
            refine tz_iload_n (pc := 97) dX3_fitsPart_97 rfl rfl ?_
            refine tz_iconst (pc := 98) dX3_fitsPart_98 ?_
            refine tz_iadd (pc := 99) (v := 3) dX3_fitsPart_99 (by decide) ?_
            have g1 := (C.arg (t := p) (i := i) (by omega) (by omega) (by omega) (by omega)).1
            have g2 := (C.arg (t := t) (i := i) (by omega) (by omega) (by omega) (by omega)).1
            rw [← e9] at g1 g2
            refine tz_cV (pc := 100) (x_fits3 hl n _ _ _ (by omega) (by omega) m (C.of (fun c hc => fr c (by simp [zbut]; omega))) (by omega) (by omega) h1) vl_X3_25 dX3_fitsPart_100 o_139 rfl rfl (Nat.le_of_ble_eq_true rfl) ⟨(Nat.le_of_ble_eq_true rfl), (Nat.le_of_ble_eq_true rfl)⟩ rfl rfl (Nat.le_of_ble_eq_true rfl) (Nat.le_of_ble_eq_true rfl) (fun r9 J_100 hq9 => ?_)
            obtain ⟨z_100, rfl, hz_100, a9, f2, h2⟩ := hq9
            have a2 : MAN (cmt J 4 (J1 140) (cag J p i) (cag J t i)) z_100 J_100 := by
              have q9 := a9
              rw [cmt_of fr, show J1 9 = J 9 from e9] at q9
              exact q9
            have zz : z_100 = 0 ∨ z_100 = 1 := a2.1.elim (fun q => Or.inr q.2) (fun q => Or.inl q.2)
            refine tz_if_ne (pc := 103) (tgt := 108) dX3_fitsPart_103 (by decide) (by omega) (fun h_103 => ?_) (fun h_103 => ?_)
            · refine tz_iinc (pc := 108) (z := i + 1) (L2 := [_, _, _, _, _]) dX3_fitsPart_108 rfl (by omega) rfl ?_
              refine tz_goto (pc := 111) (tgt := 62) dX3_fitsPart_111 (by decide) ?_
              exact ih62 (i + 1) _ (by omega) (by omega) (f2.tr fr) h2 (cmF_n (by omega) x1 a2 (by omega))
            · refine tz_iconst (pc := 106) dX3_fitsPart_106 ?_
              exact tz_zret (pc := 107) (z := 0) dX3_fitsPart_107 rfl (Or.inl rfl) (Nat.le_of_ble_eq_true rfl) (Nat.le_of_ble_eq_true rfl) ⟨Nat.le_refl _, Nat.le_add_right _ _⟩ ⟨_, rfl, (by decide), ⟨MAN.f (by omega) (by omega) (by omega) x1 a2 (by omega), f2.tr fr, h2⟩⟩
      exact loop62 _ 0 _ (Nat.lt_succ_self _) (by omega) zOf.rf hg cmF_0
    · refine tz_iconst (pc := 57) dX3_fitsPart_57 ?_
      exact tz_zret (pc := 58) (z := 0) dX3_fitsPart_58 rfl (Or.inl rfl) (Nat.le_of_ble_eq_true rfl) (Nat.le_of_ble_eq_true rfl) ⟨Nat.le_refl _, Nat.le_add_right _ _⟩ ⟨_, rfl, (by decide), ⟨MAN.n (by omega) (by omega), zOf.rf, hg⟩⟩

set_option maxHeartbeats 4000000 in
set_option maxRecDepth 100000 in
theorem x_fits1 {l : Launch} {G : tb_G} (hl : l.stackTraces = false) (n : Nat) (J : zJ) (p : Int) (t : Int) (hr_p : -2147483648 ≤ p ∧ p < 2147483648) (hr_t : -2147483648 ≤ t ∧ t < 2147483648) (m : Int) (C : CT J m) (hp : 0 ≤ p ∧ p < m) (ht : 0 ≤ t ∧ t < m) (hg : gOK (J 140) m) : tz_Ok l G M_X3_fitsPart 6 0 0 [.ref 139, zi p, zi t, zi 1] n J (zqi (fun z J' => MAN (cmt J 6 (J 140) p t) z J' ∧ zOf (zbut [140]) J' J ∧ gOK (J' 140) m)) zN := by
  refine tz_Ok.of hl (by decide +kernel) rfl (tb_c1 rfl) (Nat.le_of_ble_eq_true rfl) ?_
  show tz_At l G M_X3_fitsPart (tb_rm 6 0 0) none (tb_ZM G 0 0 (zQ n 0 (zqi (fun z J' => MAN (cmt J 6 (J 140) p t) z J' ∧ zOf (zbut [140]) J' J ∧ gOK (J' 140) m))) (zX n 0 zN)) 0 0 n J 0 [some (.ref 139), some (zi p), some (zi t), some (zi 1), none] []
  have hm := C.told
  have ha := C.ar hp.1 hp.2
  refine tz_iload_n (pc := 0) dX3_fitsPart_0 rfl rfl ?_
  refine tz_bipush (pc := 1) dX3_fitsPart_1 (by decide) ?_
  refine tz_icmp_leT (pc := 3) (tgt := 8) (by decide) dX3_fitsPart_3 (by decide) (by decide) (by decide) ?_
  refine tz_aload_n (pc := 8) dX3_fitsPart_8 rfl rfl ?_
  refine tz_fR (pc := 9) dX3_fitsPart_9 fl_X3_15 r_139_0 ?_
  refine tz_iload_n (pc := 12) dX3_fitsPart_12 rfl rfl ?_
  refine tz_cV (pc := 13) (c_isVar hl n _ _ (by omega) (by omega)) vl_X3_29 dX3_fitsPart_13 o_6 rfl rfl (Nat.le_of_ble_eq_true rfl) ⟨(Nat.le_of_ble_eq_true rfl), (Nat.le_of_ble_eq_true rfl)⟩ rfl rfl (Nat.le_of_ble_eq_true rfl) (Nat.le_of_ble_eq_true rfl) (fun r9 J_13 hq9 => ?_)
  obtain ⟨z_13, rfl, hz_13, rfl, rfl⟩ := hq9
  by_cases hw_16 : J 7 p < 0
  · rw [show (if J 7 p < 0 then 1 else 0 : Int) = 1 from if_pos hw_16]
    refine tz_if_eqF (pc := 16) (tgt := 36) (by decide) dX3_fitsPart_16 (by decide) (by decide) ?_
    refine tz_aload_n (pc := 19) dX3_fitsPart_19 rfl rfl ?_
    refine tz_aload_n (pc := 20) dX3_fitsPart_20 rfl rfl ?_
    refine tz_fR (pc := 21) dX3_fitsPart_21 fl_X3_15 r_139_0 ?_
    refine tz_fR (pc := 24) dX3_fitsPart_24 fl_X3_35 r_6_1 ?_
    refine tz_iload_n (pc := 27) dX3_fitsPart_27 rfl rfl ?_
    refine tz_aL (pc := 28) (z := p) (v := (J 7 p)) dX3_fitsPart_28 a_7 rfl (by omega) rfl (fun r_28 => ?_)
    refine tz_iconst (pc := 29) dX3_fitsPart_29 ?_
    refine tz_ixor (pc := 30) (v := -1 - J 7 p) dX3_fitsPart_30 (z_nn (by omega)) ?_
    refine tz_iload_n (pc := 31) dX3_fitsPart_31 rfl rfl ?_
    refine tz_cV (pc := 32) (c_takes hl n _ _ _ (by omega) (by omega) (by omega)) vl_X3_38 dX3_fitsPart_32 o_139 rfl rfl (Nat.le_of_ble_eq_true rfl) ⟨(Nat.le_of_ble_eq_true rfl), (Nat.le_of_ble_eq_true rfl)⟩ rfl rfl (Nat.le_of_ble_eq_true rfl) (Nat.le_of_ble_eq_true rfl) (fun r9 J_32 hq9 => ?_)
    obtain ⟨z_32, rfl, hz_32, hj, hz⟩ := hq9
    have mv := MAN.v (k := 5) (p := p) (by omega) rfl hj hz
    exact tz_zret (pc := 35) (z := z_32) dX3_fitsPart_35 rfl (by omega) (Nat.le_of_ble_eq_true rfl) (Nat.le_of_ble_eq_true rfl) ⟨Nat.le_refl _, Nat.le_add_right _ _⟩ ⟨_, rfl, (by omega), ⟨mv, by rw [← hj]; exact zOf_tk, by rw [← hj]; exact hg.tk ht⟩⟩
  · rw [show (if J 7 p < 0 then 1 else 0 : Int) = 0 from if_neg hw_16]
    refine tz_if_eqT (pc := 16) (tgt := 36) (by decide) dX3_fitsPart_16 (by decide) (by decide) ?_
    refine tz_aload_n (pc := 36) dX3_fitsPart_36 rfl rfl ?_
    refine tz_fR (pc := 37) dX3_fitsPart_37 fl_X3_15 r_139_0 ?_
    refine tz_fR (pc := 40) dX3_fitsPart_40 fl_X3_35 r_6_1 ?_
    refine tz_iload_n (pc := 43) dX3_fitsPart_43 rfl rfl ?_
    refine tz_aL (pc := 44) (z := p) (v := (J 7 p)) dX3_fitsPart_44 a_7 rfl (by omega) rfl (fun r_44 => ?_)
    refine tz_aload_n (pc := 45) dX3_fitsPart_45 rfl rfl ?_
    refine tz_fR (pc := 46) dX3_fitsPart_46 fl_X3_15 r_139_0 ?_
    refine tz_fR (pc := 49) dX3_fitsPart_49 fl_X3_35 r_6_1 ?_
    refine tz_iload_n (pc := 52) dX3_fitsPart_52 rfl rfl ?_
    refine tz_aL (pc := 53) (z := t) (v := (J 7 t)) dX3_fitsPart_53 a_7 rfl (by omega) rfl (fun r_53 => ?_)
    refine tz_icmp_eq (pc := 54) (tgt := 59) dX3_fitsPart_54 (by decide) (by omega) (by omega) (fun h_54 => ?_) (fun h_54 => ?_)
    · refine tz_iconst (pc := 59) dX3_fitsPart_59 ?_
      refine tz_istore (pc := 60) (L2 := [_, _, _, _, _]) dX3_fitsPart_60 (by decide) rfl ?_
      have loop62 : ∀ (f9 : Nat) (i : Int) (J1 : zJ), ((3 - i).toNat) < f9 → (0 ≤ i ∧ i ≤ J 8 p) → (zOf (zbut [140]) J1 J) → (gOK (J1 140) m) → (cmF J 5 p t i = (true, J1 140)) → tz_At l G M_X3_fitsPart (tb_rm 6 0 0) none (tb_ZM G 0 0 (zQ n 0 (zqi (fun z J' => MAN (cmt J 6 (J 140) p t) z J' ∧ zOf (zbut [140]) J' J ∧ gOK (J' 140) m))) (zX n 0 zN)) 0 0 n J1 62 [some (.ref 139), some (zi p), some (zi t), some (zi 1), some (zi i)] [] := by
        intro f9
        induction f9 with
        | zero => intro i J1 hm9; exact absurd hm9 (Nat.not_lt_zero _)
        | succ f9 ih62 =>
          intro i J1 hm62 hi fr h1 x1
          have he := C.arh hp ht (by omega)
          have e9 := fr 9 rfl
          refine tz_iload (pc := 62) dX3_fitsPart_62 rfl ?_
          refine tz_aload_n (pc := 64) dX3_fitsPart_64 rfl rfl ?_
          refine tz_fR (pc := 65) dX3_fitsPart_65 fl_X3_15 r_139_0 ?_
          refine tz_fR (pc := 68) dX3_fitsPart_68 fl_X3_42 r_6_2 ?_
          refine tz_iload_n (pc := 71) dX3_fitsPart_71 rfl rfl ?_
          refine tz_aL (pc := 72) (z := p) (v := (J 8 p)) dX3_fitsPart_72 a_8 rfl (by omega) (Eq.trans (congrFun (fr 8 rfl) p) rfl) (fun r_72 => ?_)
          refine tz_icmp_ge (pc := 73) (tgt := 114) dX3_fitsPart_73 (by decide) (by omega) (by omega) (fun h_73 => ?_) (fun h_73 => ?_)
          · refine tz_iconst (pc := 114) dX3_fitsPart_114 ?_
            exact tz_zret (pc := 115) (z := 1) dX3_fitsPart_115 rfl (Or.inr rfl) (Nat.le_of_ble_eq_true rfl) (Nat.le_of_ble_eq_true rfl) ⟨Nat.le_refl _, Nat.le_add_right _ _⟩ ⟨_, rfl, (by decide), ⟨MAN.e (by omega) (by omega) (by omega) x1, fr, h1⟩⟩
          · refine tz_aload_n (pc := 76) dX3_fitsPart_76 rfl rfl ?_
            refine tz_aload_n (pc := 77) dX3_fitsPart_77 rfl rfl ?_
            refine tz_fR (pc := 78) dX3_fitsPart_78 fl_X3_15 r_139_0 ?_
            refine tz_iload_n (pc := 81) dX3_fitsPart_81 rfl rfl ?_
            refine tz_iload (pc := 82) dX3_fitsPart_82 rfl ?_
            refine tz_cV (pc := 84) (c_arg hl n _ _ _ (by omega) (by omega) (by omega)) vl_X3_45 dX3_fitsPart_84 o_6 rfl rfl (Nat.le_of_ble_eq_true rfl) ⟨(Nat.le_of_ble_eq_true rfl), (Nat.le_of_ble_eq_true rfl)⟩ rfl rfl (Nat.le_of_ble_eq_true rfl) (Nat.le_of_ble_eq_true rfl) (fun r9 J_84 hq9 => ?_)
            obtain ⟨z_84, rfl, hz_84, rfl, rfl⟩ := hq9
            refine tz_aload_n (pc := 87) dX3_fitsPart_87 rfl rfl ?_
            refine tz_fR (pc := 88) dX3_fitsPart_88 fl_X3_15 r_139_0 ?_
            refine tz_iload_n (pc := 91) dX3_fitsPart_91 rfl rfl ?_
            refine tz_iload (pc := 92) dX3_fitsPart_92 rfl ?_
            refine tz_cV (pc := 94) (c_arg hl n _ _ _ (by omega) (by omega) (by omega)) vl_X3_45 dX3_fitsPart_94 o_6 rfl rfl (Nat.le_of_ble_eq_true rfl) ⟨(Nat.le_of_ble_eq_true rfl), (Nat.le_of_ble_eq_true rfl)⟩ rfl rfl (Nat.le_of_ble_eq_true rfl) (Nat.le_of_ble_eq_true rfl) (fun r9 J_94 hq9 => ?_)
            obtain ⟨z_94, rfl, hz_94, rfl, rfl⟩ := hq9
            refine tz_iload_n (pc := 97) dX3_fitsPart_97 rfl rfl ?_
            refine tz_iconst (pc := 98) dX3_fitsPart_98 ?_
            refine tz_iadd (pc := 99) (v := 2) dX3_fitsPart_99 (by decide) ?_
            have g1 := (C.arg (t := p) (i := i) (by omega) (by omega) (by omega) (by omega)).1
            have g2 := (C.arg (t := t) (i := i) (by omega) (by omega) (by omega) (by omega)).1
            rw [← e9] at g1 g2
            refine tz_cV (pc := 100) (x_fits2 hl n _ _ _ (by omega) (by omega) m (C.of (fun c hc => fr c (by simp [zbut]; omega))) (by omega) (by omega) h1) vl_X3_25 dX3_fitsPart_100 o_139 rfl rfl (Nat.le_of_ble_eq_true rfl) ⟨(Nat.le_of_ble_eq_true rfl), (Nat.le_of_ble_eq_true rfl)⟩ rfl rfl (Nat.le_of_ble_eq_true rfl) (Nat.le_of_ble_eq_true rfl) (fun r9 J_100 hq9 => ?_)
            obtain ⟨z_100, rfl, hz_100, a9, f2, h2⟩ := hq9
            have a2 : MAN (cmt J 5 (J1 140) (cag J p i) (cag J t i)) z_100 J_100 := by
              have q9 := a9
              rw [cmt_of fr, show J1 9 = J 9 from e9] at q9
              exact q9
            have zz : z_100 = 0 ∨ z_100 = 1 := a2.1.elim (fun q => Or.inr q.2) (fun q => Or.inl q.2)
            refine tz_if_ne (pc := 103) (tgt := 108) dX3_fitsPart_103 (by decide) (by omega) (fun h_103 => ?_) (fun h_103 => ?_)
            · refine tz_iinc (pc := 108) (z := i + 1) (L2 := [_, _, _, _, _]) dX3_fitsPart_108 rfl (by omega) rfl ?_
              refine tz_goto (pc := 111) (tgt := 62) dX3_fitsPart_111 (by decide) ?_
              exact ih62 (i + 1) _ (by omega) (by omega) (f2.tr fr) h2 (cmF_n (by omega) x1 a2 (by omega))
            · refine tz_iconst (pc := 106) dX3_fitsPart_106 ?_
              exact tz_zret (pc := 107) (z := 0) dX3_fitsPart_107 rfl (Or.inl rfl) (Nat.le_of_ble_eq_true rfl) (Nat.le_of_ble_eq_true rfl) ⟨Nat.le_refl _, Nat.le_add_right _ _⟩ ⟨_, rfl, (by decide), ⟨MAN.f (by omega) (by omega) (by omega) x1 a2 (by omega), f2.tr fr, h2⟩⟩
      exact loop62 _ 0 _ (Nat.lt_succ_self _) (by omega) zOf.rf hg cmF_0
    · refine tz_iconst (pc := 57) dX3_fitsPart_57 ?_
      exact tz_zret (pc := 58) (z := 0) dX3_fitsPart_58 rfl (Or.inl rfl) (Nat.le_of_ble_eq_true rfl) (Nat.le_of_ble_eq_true rfl) ⟨Nat.le_refl _, Nat.le_add_right _ _⟩ ⟨_, rfl, (by decide), ⟨MAN.n (by omega) (by omega), zOf.rf, hg⟩⟩

set_option maxHeartbeats 4000000 in
set_option maxRecDepth 100000 in
theorem x_matches {l : Launch} {G : tb_G} (hl : l.stackTraces = false) (n : Nat) (J : zJ) (p : Int) (t : Int) (hr_p : -2147483648 ≤ p ∧ p < 2147483648) (hr_t : -2147483648 ≤ t ∧ t < 2147483648) (m : Int) (C : CT J m) (hp : 0 ≤ p ∧ p < m) (ht : 0 ≤ t ∧ t < m) : tz_Ok l G M_X3_matches 7 0 0 [.ref 139, zi p, zi t] n J (zqi (fun z J' => (∃ σ, (∀ k, 0 ≤ k → k < 8 → σ k = -1) ∧ MAN (cmt J 6 σ p t) z J') ∧ zOf (zbut [140]) J' J ∧ gOK (J' 140) m)) zN := by
  refine tz_Ok.of hl (by decide +kernel) rfl (tb_c1 rfl) (Nat.le_of_ble_eq_true rfl) ?_
  show tz_At l G M_X3_matches (tb_rm 7 0 0) none (tb_ZM G 0 0 (zQ n 0 (zqi (fun z J' => (∃ σ, (∀ k, 0 ≤ k → k < 8 → σ k = -1) ∧ MAN (cmt J 6 σ p t) z J') ∧ zOf (zbut [140]) J' J ∧ gOK (J' 140) m))) (zX n 0 zN)) 0 0 n J 0 [some (.ref 139), some (zi p), some (zi t)] []
  refine tz_aload_n (pc := 0) dX3_matches_0 rfl rfl ?_
  refine tz_fR (pc := 1) dX3_matches_1 fl_X3_9 r_139_1 ?_
  refine tz_iconst (pc := 4) dX3_matches_4 ?_
  refine tz_cS (pc := 5) (zJ_fill hl n _ 140 _ 8 (-1) (by decide) a_140 rfl) sl_X3_19 dX3_matches_5 rfl rfl (Nat.le_of_ble_eq_true rfl) ⟨(Nat.le_of_ble_eq_true rfl), (Nat.le_of_ble_eq_true rfl)⟩ rfl rfl (Nat.le_of_ble_eq_true rfl) (Nat.le_of_ble_eq_true rfl) (fun r9 J_5 hq9 => ?_)
  obtain ⟨rfl, rfl⟩ := hq9
  refine tz_aload_n (pc := 8) dX3_matches_8 rfl rfl ?_
  refine tz_iload_n (pc := 9) dX3_matches_9 rfl rfl ?_
  refine tz_iload_n (pc := 10) dX3_matches_10 rfl rfl ?_
  refine tz_iconst (pc := 11) dX3_matches_11 ?_
  refine tz_cV (pc := 12) (x_fits1 hl n _ _ _ (by omega) (by omega) m (C.of (fun c hc => zfl_nc (by omega))) hp ht (fun v a b => by rw [zfl_in b]; omega)) vl_X3_25 dX3_matches_12 o_139 rfl rfl (Nat.le_of_ble_eq_true rfl) ⟨(Nat.le_of_ble_eq_true rfl), (Nat.le_of_ble_eq_true rfl)⟩ rfl rfl (Nat.le_of_ble_eq_true rfl) (Nat.le_of_ble_eq_true rfl) (fun r9 J_12 hq9 => ?_)
  obtain ⟨z_12, rfl, hz_12, a9, f2, h2⟩ := hq9
  have zz : z_12 = 0 ∨ z_12 = 1 := a9.1.elim (fun q => Or.inr q.2) (fun q => Or.inl q.2)
  exact tz_zret (pc := 15) (z := z_12) dX3_matches_15 rfl (by omega) (Nat.le_of_ble_eq_true rfl) (Nat.le_of_ble_eq_true rfl) ⟨Nat.le_refl _, Nat.le_add_right _ _⟩ ⟨_, rfl, (by omega), ⟨⟨_, fun k a b => zfl_in b, by rw [cmt_of (zOf.fl rfl zOf.rf : zOf (zbut [140]) (zfl J 140 8 (-1)) J)] at a9; exact a9⟩, f2.tr (zOf.fl rfl zOf.rf), h2⟩⟩

