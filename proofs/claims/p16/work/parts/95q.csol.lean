/-! ===== what a class is made to, in the class, exact ===== -/
set_option maxHeartbeats 4000000 in
set_option maxRecDepth 100000 in
theorem u_topM {l : Launch} {G : tb_G} (hl : l.stackTraces = false) (n : Nat) (J : zJ) (x : Int) (hr_x : -2147483648 ≤ x ∧ x < 2147483648) (b m c m0 : Int) (hm : 0 ≤ m ∧ m ≤ 400) (hx : nd b m x) (hU : UI J b m) (hP : UFp (VN c m0) (upV J)) (hc9 : c = 400 ∨ c = 800) (hxv : VN c m0 x) : tz_Ok l G M_X10_topOf 2 0 0 [.ref 145, zi x] n J (zqi (fun z J' => (UW J' J b m ∧ (nd b m z ∧ J' 146 z = J 145 10) ∧ zOf (zbut [146, 147, 148, 149, 150, 154]) J' J) ∧ vE c m0 J' J ∧ z = tp (upV J) x)) zN := by
  refine tz_Ok.of hl (by decide +kernel) rfl (tb_c1 rfl) (Nat.le_of_ble_eq_true rfl) ?_
  show tz_At l G M_X10_topOf (tb_rm 2 0 0) none (tb_ZM G 0 0 (zQ n 0 (zqi (fun z J' => (UW J' J b m ∧ (nd b m z ∧ J' 146 z = J 145 10) ∧ zOf (zbut [146, 147, 148, 149, 150, 154]) J' J) ∧ vE c m0 J' J ∧ z = tp (upV J) x))) (zX n 0 zN)) 0 0 n J 0 [some (.ref 145), some (zi x), none, none] []
  have ht := hx.ix hm
  have hx2 := hx.rg hm
  obtain ⟨rk, rk8, rkh⟩ := hP.b (fun y q => VN.b hc9 q)
  have rkx := rk8 x hxv
  refine tz_aload_n (pc := 0) dX10_topOf_0 rfl rfl ?_
  refine tz_fR (pc := 1) dX10_topOf_1 fl_X10_11 r_145_1 ?_
  refine tz_iload_n (pc := 4) dX10_topOf_4 rfl rfl ?_
  refine tz_aL (pc := 5) (z := x) (v := (J 146 x)) dX10_topOf_5 a_146 rfl (by omega) rfl (fun r_5 => ?_)
  refine tz_aload_n (pc := 6) dX10_topOf_6 rfl rfl ?_
  refine tz_fI (pc := 7) (kz := 10) (v := (J 145 10)) dX10_topOf_7 fl_X10_39 i_145_10 rfl rfl (fun r_7 => ?_)
  refine tz_icmp_eq (pc := 10) (tgt := 18) dX10_topOf_10 (by decide) (by omega) (by omega) (fun h_10 => ?_) (fun h_10 => ?_)
  · refine tz_iload_n (pc := 18) dX10_topOf_18 rfl rfl ?_
    refine tz_istore_n (pc := 19) (L2 := [_, _, _, _]) dX10_topOf_19 rfl (by decide) rfl ?_
    refine tz_iconst (pc := 20) dX10_topOf_20 ?_
    refine tz_istore_n (pc := 21) (L2 := [_, _, _, _]) dX10_topOf_21 rfl (by decide) rfl ?_
    have loop22 : ∀ (f9 : Nat) (x1 : Int) (k : Int) (J1 : zJ), ((800 - k).toNat) < f9 → (0 ≤ k ∧ k ≤ 800) → (UW J1 J b m) → (nd b m x1) → (J1 146 x1 = J 145 10) → (zOf (zbut [146, 147, 148, 149, 150, 154]) J1 J) → (vE c m0 J1 J) → (tp (upV J) x1 = tp (upV J) x) → (RKb c m0 rk (upV J1)) → ((rk x1 : Int) + k ≤ 799) → (VN c m0 x1) → tz_At l G M_X10_topOf (tb_rm 2 0 0) none (tb_ZM G 0 0 (zQ n 0 (zqi (fun z J' => (UW J' J b m ∧ (nd b m z ∧ J' 146 z = J 145 10) ∧ zOf (zbut [146, 147, 148, 149, 150, 154]) J' J) ∧ vE c m0 J' J ∧ z = tp (upV J) x))) (zX n 0 zN)) 0 0 n J1 22 [some (.ref 145), some (zi x), some (zi x1), some (zi k)] [] := by
      intro f9
      induction f9 with
      | zero => intro x1 k J1 hm9; exact absurd hm9 (Nat.not_lt_zero _)
      | succ f9 ih22 =>
        intro x1 k J1 hm22 hk hw hn ha hf hv htx hr hd hxv1
        have h1 := hw.at hm hn ha
        have h1r := hn.rg hm
        have h2 := hw.at hm h1.2.1.1 (by have := h1.2.1.2; rw [hw.2.1] at this; exact this)
        have h2r := h1.2.1.1.rg hm
        have h3r := h2.2.1.1.rg hm
        have ha9 : J1 146 x1 = J1 145 10 := ha.trans hw.2.1.symm
        have vs9 := vshort hv.1 hxv1 ha9 h1.2.1.2
        have pp1 : upV J1 x1 = J1 147 x1 := by unfold upV; rw [if_pos ha9]
        have pp2 : upV J1 (J1 147 x1) = J1 147 (J1 147 x1) := by unfold upV; rw [if_pos h1.2.1.2]
        have vx2 : VN c m0 (J1 147 x1) := by rw [← pp1]; exact hv.1.V hxv1
        have vx3 : VN c m0 (J1 147 (J1 147 x1)) := by rw [← pp2]; exact hv.1.V vx2
        have tx9 : tp (upV J1) (J1 147 (J1 147 x1)) = tp (upV J1) x1 := by rw [← pp2, hv.1.p _ vx2, ← pp1, hv.1.p _ hxv1]
        have rr1 := (hr x1 hxv1).2
        have rr2 := (hr _ vx2).2
        rw [pp1] at rr1
        rw [pp2] at rr2
        refine tz_iload_n (pc := 22) dX10_topOf_22 rfl rfl ?_
        refine tz_sipush (pc := 23) dX10_topOf_23 (by decide) ?_
        refine tz_icmp_ge (pc := 26) (tgt := 69) dX10_topOf_26 (by decide) (by omega) (by decide) (fun h_26 => ?_) (fun h_26 => ?_)
        · refine tz_iload_n (pc := 69) dX10_topOf_69 rfl rfl ?_
          exact tz_iret (pc := 70) (z := x1) dX10_topOf_70 rfl (Nat.le_of_ble_eq_true rfl) (Nat.le_of_ble_eq_true rfl) ⟨Nat.le_refl _, Nat.le_add_right _ _⟩ ⟨_, rfl, (by omega), ⟨⟨hw, ⟨hn, ha⟩, hf⟩, hv, by rw [← htx, ← hv.2.1 x1 hxv1]; exact (tp_r (pp1.trans (by omega))).symm⟩⟩
        · refine tz_aload_n (pc := 29) dX10_topOf_29 rfl rfl ?_
          refine tz_fR (pc := 30) dX10_topOf_30 fl_X10_15 r_145_2 ?_
          refine tz_iload_n (pc := 33) dX10_topOf_33 rfl rfl ?_
          refine tz_aL (pc := 34) (z := x1) (v := (J1 147 x1)) dX10_topOf_34 a_147 rfl (by omega) rfl (fun r_34 => ?_)
          refine tz_iload_n (pc := 35) dX10_topOf_35 rfl rfl ?_
          refine tz_icmp_eq (pc := 36) (tgt := 69) dX10_topOf_36 (by decide) (by omega) (by omega) (fun h_36 => ?_) (fun h_36 => ?_)
          · refine tz_iload_n (pc := 69) dX10_topOf_69 rfl rfl ?_
            exact tz_iret (pc := 70) (z := x1) dX10_topOf_70 rfl (Nat.le_of_ble_eq_true rfl) (Nat.le_of_ble_eq_true rfl) ⟨Nat.le_refl _, Nat.le_add_right _ _⟩ ⟨_, rfl, (by omega), ⟨⟨hw, ⟨hn, ha⟩, hf⟩, hv, by rw [← htx, ← hv.2.1 x1 hxv1]; exact (tp_r (pp1.trans (by omega))).symm⟩⟩
          · refine tz_aload_n (pc := 39) dX10_topOf_39 rfl rfl ?_
            refine tz_fR (pc := 40) dX10_topOf_40 fl_X10_15 r_145_2 ?_
            refine tz_iload_n (pc := 43) dX10_topOf_43 rfl rfl ?_
            refine tz_aload_n (pc := 44) dX10_topOf_44 rfl rfl ?_
            refine tz_fR (pc := 45) dX10_topOf_45 fl_X10_15 r_145_2 ?_
            refine tz_aload_n (pc := 48) dX10_topOf_48 rfl rfl ?_
            refine tz_fR (pc := 49) dX10_topOf_49 fl_X10_15 r_145_2 ?_
            refine tz_iload_n (pc := 52) dX10_topOf_52 rfl rfl ?_
            refine tz_aL (pc := 53) (z := x1) (v := (J1 147 x1)) dX10_topOf_53 a_147 rfl (by omega) rfl (fun r_53 => ?_)
            refine tz_aL (pc := 54) (z := (J1 147 x1)) (v := (J1 147 (J1 147 x1))) dX10_topOf_54 a_147 rfl (by omega) rfl (fun r_54 => ?_)
            refine tz_aS (pc := 55) (z := x1) dX10_topOf_55 a_147 rfl (by omega) (by omega) ?_
            refine tz_aload_n (pc := 56) dX10_topOf_56 rfl rfl ?_
            refine tz_fR (pc := 57) dX10_topOf_57 fl_X10_15 r_145_2 ?_
            refine tz_iload_n (pc := 60) dX10_topOf_60 rfl rfl ?_
            refine tz_aL (pc := 61) (z := x1) (v := (J1 147 (J1 147 x1))) dX10_topOf_61 a_147 rfl (by omega) (by simp [zup]) (fun r_61 => ?_)
            refine tz_istore_n (pc := 62) (L2 := [_, _, _, _]) dX10_topOf_62 rfl (by decide) rfl ?_
            refine tz_iinc (pc := 63) (z := k + 1) (L2 := [_, _, _, _]) dX10_topOf_63 rfl (by omega) rfl ?_
            refine tz_goto (pc := 66) (tgt := 22) dX10_topOf_66 (by decide) ?_
            exact ih22 _ (k + 1) _ (by omega) (by omega) (hw.p7 h2.2.1.1 (by have := h2.2.1.2; rw [hw.2.1] at this; exact this)) h2.2.1.1 (by have := h2.2.1.2; rw [hw.2.1] at this; exact this) (zOf.up rfl hf) (vs9.1.tr hv) ((hv.2.1 _ vx3).symm.trans (tx9.trans ((hv.2.1 x1 hxv1).trans htx))) (hr.short hxv1 vs9.2) (by have r9 := rk_st rr1 rr2 (by omega); omega) vx3
    exact loop22 _ _ 0 _ (Nat.lt_succ_self _) (by omega) (UW.rf hU) hx h_10 zOf.rf (vE.rf hP) rfl rkh (by omega) hxv
  · refine tz_aload_n (pc := 13) dX10_topOf_13 rfl rfl ?_
    refine tz_iload_n (pc := 14) dX10_topOf_14 rfl rfl ?_
    refine tz_cV (pc := 15) (u_wake hl n _ _ (by omega) b m hm hx hU) vl_X10_80 dX10_topOf_15 o_145 rfl rfl (Nat.le_of_ble_eq_true rfl) ⟨(Nat.le_of_ble_eq_true rfl), (Nat.le_of_ble_eq_true rfl)⟩ rfl rfl (Nat.le_of_ble_eq_true rfl) (Nat.le_of_ble_eq_true rfl) (fun r9 J_15 hq9 => ?_)
    obtain ⟨rfl, ⟨⟨w1, w2⟩, w3⟩, w4⟩ := hq9
    refine tz_iload_n (pc := 18) dX10_topOf_18 rfl rfl ?_
    refine tz_istore_n (pc := 19) (L2 := [_, _, _, _]) dX10_topOf_19 rfl (by decide) rfl ?_
    refine tz_iconst (pc := 20) dX10_topOf_20 ?_
    refine tz_istore_n (pc := 21) (L2 := [_, _, _, _]) dX10_topOf_21 rfl (by decide) rfl ?_
    have loop22 : ∀ (f9 : Nat) (x1 : Int) (k : Int) (J1 : zJ), ((800 - k).toNat) < f9 → (0 ≤ k ∧ k ≤ 800) → (UW J1 J b m) → (nd b m x1) → (J1 146 x1 = J 145 10) → (zOf (zbut [146, 147, 148, 149, 150, 154]) J1 J) → (vE c m0 J1 J) → (tp (upV J) x1 = tp (upV J) x) → (RKb c m0 rk (upV J1)) → ((rk x1 : Int) + k ≤ 799) → (VN c m0 x1) → tz_At l G M_X10_topOf (tb_rm 2 0 0) none (tb_ZM G 0 0 (zQ n 0 (zqi (fun z J' => (UW J' J b m ∧ (nd b m z ∧ J' 146 z = J 145 10) ∧ zOf (zbut [146, 147, 148, 149, 150, 154]) J' J) ∧ vE c m0 J' J ∧ z = tp (upV J) x))) (zX n 0 zN)) 0 0 n J1 22 [some (.ref 145), some (zi x), some (zi x1), some (zi k)] [] := by
      intro f9
      induction f9 with
      | zero => intro x1 k J1 hm9; exact absurd hm9 (Nat.not_lt_zero _)
      | succ f9 ih22 =>
        intro x1 k J1 hm22 hk hw hn ha hf hv htx hr hd hxv1
        have h1 := hw.at hm hn ha
        have h1r := hn.rg hm
        have h2 := hw.at hm h1.2.1.1 (by have := h1.2.1.2; rw [hw.2.1] at this; exact this)
        have h2r := h1.2.1.1.rg hm
        have h3r := h2.2.1.1.rg hm
        have ha9 : J1 146 x1 = J1 145 10 := ha.trans hw.2.1.symm
        have vs9 := vshort hv.1 hxv1 ha9 h1.2.1.2
        have pp1 : upV J1 x1 = J1 147 x1 := by unfold upV; rw [if_pos ha9]
        have pp2 : upV J1 (J1 147 x1) = J1 147 (J1 147 x1) := by unfold upV; rw [if_pos h1.2.1.2]
        have vx2 : VN c m0 (J1 147 x1) := by rw [← pp1]; exact hv.1.V hxv1
        have vx3 : VN c m0 (J1 147 (J1 147 x1)) := by rw [← pp2]; exact hv.1.V vx2
        have tx9 : tp (upV J1) (J1 147 (J1 147 x1)) = tp (upV J1) x1 := by rw [← pp2, hv.1.p _ vx2, ← pp1, hv.1.p _ hxv1]
        have rr1 := (hr x1 hxv1).2
        have rr2 := (hr _ vx2).2
        rw [pp1] at rr1
        rw [pp2] at rr2
        refine tz_iload_n (pc := 22) dX10_topOf_22 rfl rfl ?_
        refine tz_sipush (pc := 23) dX10_topOf_23 (by decide) ?_
        refine tz_icmp_ge (pc := 26) (tgt := 69) dX10_topOf_26 (by decide) (by omega) (by decide) (fun h_26 => ?_) (fun h_26 => ?_)
        · refine tz_iload_n (pc := 69) dX10_topOf_69 rfl rfl ?_
          exact tz_iret (pc := 70) (z := x1) dX10_topOf_70 rfl (Nat.le_of_ble_eq_true rfl) (Nat.le_of_ble_eq_true rfl) ⟨Nat.le_refl _, Nat.le_add_right _ _⟩ ⟨_, rfl, (by omega), ⟨⟨hw, ⟨hn, ha⟩, hf⟩, hv, by rw [← htx, ← hv.2.1 x1 hxv1]; exact (tp_r (pp1.trans (by omega))).symm⟩⟩
        · refine tz_aload_n (pc := 29) dX10_topOf_29 rfl rfl ?_
          refine tz_fR (pc := 30) dX10_topOf_30 fl_X10_15 r_145_2 ?_
          refine tz_iload_n (pc := 33) dX10_topOf_33 rfl rfl ?_
          refine tz_aL (pc := 34) (z := x1) (v := (J1 147 x1)) dX10_topOf_34 a_147 rfl (by omega) rfl (fun r_34 => ?_)
          refine tz_iload_n (pc := 35) dX10_topOf_35 rfl rfl ?_
          refine tz_icmp_eq (pc := 36) (tgt := 69) dX10_topOf_36 (by decide) (by omega) (by omega) (fun h_36 => ?_) (fun h_36 => ?_)
          · refine tz_iload_n (pc := 69) dX10_topOf_69 rfl rfl ?_
            exact tz_iret (pc := 70) (z := x1) dX10_topOf_70 rfl (Nat.le_of_ble_eq_true rfl) (Nat.le_of_ble_eq_true rfl) ⟨Nat.le_refl _, Nat.le_add_right _ _⟩ ⟨_, rfl, (by omega), ⟨⟨hw, ⟨hn, ha⟩, hf⟩, hv, by rw [← htx, ← hv.2.1 x1 hxv1]; exact (tp_r (pp1.trans (by omega))).symm⟩⟩
          · refine tz_aload_n (pc := 39) dX10_topOf_39 rfl rfl ?_
            refine tz_fR (pc := 40) dX10_topOf_40 fl_X10_15 r_145_2 ?_
            refine tz_iload_n (pc := 43) dX10_topOf_43 rfl rfl ?_
            refine tz_aload_n (pc := 44) dX10_topOf_44 rfl rfl ?_
            refine tz_fR (pc := 45) dX10_topOf_45 fl_X10_15 r_145_2 ?_
            refine tz_aload_n (pc := 48) dX10_topOf_48 rfl rfl ?_
            refine tz_fR (pc := 49) dX10_topOf_49 fl_X10_15 r_145_2 ?_
            refine tz_iload_n (pc := 52) dX10_topOf_52 rfl rfl ?_
            refine tz_aL (pc := 53) (z := x1) (v := (J1 147 x1)) dX10_topOf_53 a_147 rfl (by omega) rfl (fun r_53 => ?_)
            refine tz_aL (pc := 54) (z := (J1 147 x1)) (v := (J1 147 (J1 147 x1))) dX10_topOf_54 a_147 rfl (by omega) rfl (fun r_54 => ?_)
            refine tz_aS (pc := 55) (z := x1) dX10_topOf_55 a_147 rfl (by omega) (by omega) ?_
            refine tz_aload_n (pc := 56) dX10_topOf_56 rfl rfl ?_
            refine tz_fR (pc := 57) dX10_topOf_57 fl_X10_15 r_145_2 ?_
            refine tz_iload_n (pc := 60) dX10_topOf_60 rfl rfl ?_
            refine tz_aL (pc := 61) (z := x1) (v := (J1 147 (J1 147 x1))) dX10_topOf_61 a_147 rfl (by omega) (by simp [zup]) (fun r_61 => ?_)
            refine tz_istore_n (pc := 62) (L2 := [_, _, _, _]) dX10_topOf_62 rfl (by decide) rfl ?_
            refine tz_iinc (pc := 63) (z := k + 1) (L2 := [_, _, _, _]) dX10_topOf_63 rfl (by omega) rfl ?_
            refine tz_goto (pc := 66) (tgt := 22) dX10_topOf_66 (by decide) ?_
            exact ih22 _ (k + 1) _ (by omega) (by omega) (hw.p7 h2.2.1.1 (by have := h2.2.1.2; rw [hw.2.1] at this; exact this)) h2.2.1.1 (by have := h2.2.1.2; rw [hw.2.1] at this; exact this) (zOf.up rfl hf) (vs9.1.tr hv) ((hv.2.1 _ vx3).symm.trans (tx9.trans ((hv.2.1 x1 hxv1).trans htx))) (hr.short hxv1 vs9.2) (by have r9 := rk_st rr1 rr2 (by omega); omega) vx3
    exact loop22 _ _ 0 _ (Nat.lt_succ_self _) (by omega) w1 hx w2 w3 ((w4 h_10).e hP) rfl (by rw [(w4 h_10).p]; exact rkh) (by omega) hxv

/-- classes while they are made to terms -/
def SLV (m0 : Int) (T sh lv ρ : Int → Int) (J : zJ) (m : Int) : Prop := UFp (VN 400 m0) (upV J) ∧ (∀ x, VN 400 m0 x → tp (upV J) x = T x ∧ usV J x = sh x ∧ ulV J x = lv x) ∧ ∀ x, VN 400 m0 x → T x = x → 0 ≤ uoV J x → GCj ρ J m x (uoV J x)
def nNO (m0 : Int) (J : zJ) : Prop := ∀ x, VN 400 m0 x → ¬ uoV J x = -3
/-- what stays of them -/
def CRO (m0 : Int) (T sh lv ρ : Int → Int) (J : zJ) : Prop := (∀ t, VN 400 m0 t → VN 400 m0 (T t) ∧ T (T t) = T t ∧ ρ t = ρ (T t)) ∧ ∀ x, VN 400 m0 x → T x = x → (sh x = -1 → VN 400 m0 (ρ x) ∧ J 7 (ρ x) = -1 - lv x ∧ 0 ≤ lv x) ∧ (¬ sh x = -1 → VN 400 m0 (sh x) ∧ 0 ≤ J 7 (sh x) ∧ ρ x = sh x)
theorem VN.z {m0 x : Int} (h : VN 400 m0 x) : 0 ≤ x ∧ x < m0 := by
  have := h.1
  have := h.2
  omega
theorem CRO.gj {m0 m m' : Int} {T sh lv ρ : Int → Int} {J' J : zJ} (h : CRO m0 T sh lv ρ J) (hm : m0 ≤ m) (s : zSU J' J m) : CRO m0 T sh lv ρ J' := ⟨h.1, fun x hx e => by
  obtain ⟨a, b⟩ := h.2 x hx e
  refine ⟨fun w => ?_, fun w => ?_⟩
  · obtain ⟨p, q, r⟩ := a w
    have z := p.z
    exact ⟨p, by rw [(s.1 _ z.1 (by omega)).1]; exact q, r⟩
  · obtain ⟨p, q, r⟩ := b w
    have z := p.z
    exact ⟨p, by rw [(s.1 _ z.1 (by omega)).1]; exact q, r⟩⟩
theorem SLV.e {m0 m : Int} {T sh lv ρ : Int → Int} {J' J : zJ} (h : SLV m0 T sh lv ρ J m) (v : vE 400 m0 J' J) (f : ∀ q, q < 18 → J' q = J q) : SLV m0 T sh lv ρ J' m := ⟨v.1, fun x hx => by
  obtain ⟨a, b, c⟩ := h.2.1 x hx
  obtain ⟨p, q, _, _⟩ := v.2.2 x hx
  exact ⟨(v.2.1 x hx).trans a, p.trans b, q.trans c⟩, fun x hx e w => by
  obtain ⟨_, _, _, r⟩ := v.2.2 x hx
  rw [r] at w ⊢
  exact (h.2.2 x hx e w).of f⟩
theorem nNO.e {m0 : Int} {J' J : zJ} (h : nNO m0 J) (v : vE 400 m0 J' J) : nNO m0 J' := fun x hx => by
  rw [(v.2.2 x hx).2.2.2]; exact h x hx
theorem uo_mk {m0 m1 m2 : Int} {J2 J1 : zJ} (g : GR J2 J1 m1 m2) : ∀ x, uoV J2 x = uoV J1 x := fun x => by
  unfold uoV
  rw [g.2.2.2.2 145 rfl, g.2.2.2.2 146 rfl, g.2.2.2.2 150 rfl]
theorem SLV.made {m0 m1 m2 : Int} {T sh lv ρ : Int → Int} {J2 J1 : zJ} (h : SLV m0 T sh lv ρ J1 m1) (hm : m0 ≤ m1) (hU : UI J1 0 m0 ∨ ∀ x, 0 ≤ x → x < 800 → J1 146 x = J1 145 10 → 0 ≤ J1 149 x ∧ J1 149 x < m1) (g : GR J2 J1 m1 m2) : SLV m0 T sh lv ρ J2 m2 := by
  have e5 := g.2.2.2.2 145 rfl
  have e6 := g.2.2.2.2 146 rfl
  have p : upV J2 = upV J1 := funext fun x => by unfold upV; rw [e5, e6, g.2.2.2.2 147 rfl]
  refine ⟨by rw [p]; exact h.1, fun x hx => ?_, fun x hx e w => ?_⟩
  · obtain ⟨a, b, c⟩ := h.2.1 x hx
    have z := hx.z
    have tx : tm x = x := (tm_m (hx.b (Or.inl rfl))).1.trans (by have := hx.1; omega)
    have s7 : ∀ q, 0 ≤ q → q < m1 → J2 7 q = J1 7 q := fun q a b => (g.2.2.2.1.1 q a b).1
    refine ⟨by rw [p]; exact a, ?_, ?_⟩
    · rw [← b]
      unfold usV
      rw [e5, e6, g.2.2.2.2 148 rfl, tx, s7 x z.1 (by omega)]
    · rw [← c]
      unfold ulV
      rw [e5, e6, g.2.2.2.2 149 rfl]
      by_cases w : J1 146 x = J1 145 10
      · rw [if_pos w, if_pos w]
        have r : 0 ≤ J1 149 x ∧ J1 149 x < m1 := by
          rcases hU with hU | hU
          · have := ((hU x z.1 (hx.b (Or.inl rfl)).2).2 w).2.2.2.1.z
            omega
          · exact hU x z.1 (hx.b (Or.inl rfl)).2 w
        have t9 := g.1
        have q9 := g.2.1.told
        have tx9 : tm (J1 149 x) = J1 149 x := by unfold tm; rw [if_pos (by omega)]
        rw [tx9, s7 _ r.1 r.2]
      · rw [if_neg w, if_neg w, tx, s7 x z.1 (by omega)]
  · rw [uo_mk (m0 := m0) g x] at w ⊢
    exact (h.2.2 x hx e w).gr (g.x (X := []) |>.j ⟨rfl, rfl⟩)
theorem nNO.made {m0 m1 m2 : Int} {J2 J1 : zJ} (h : nNO m0 J1) (g : GR J2 J1 m1 m2) : nNO m0 J2 := fun x hx => by
  rw [uo_mk (m0 := m0) g x]; exact h x hx
theorem uo_up {J : zJ} {x z : Int} (ax : J 146 x = J 145 10) : ∀ y, uoV (zup J 150 x z) y = if y = x then z else uoV J y := fun y => by
  have e : zup J 150 x z 150 y = if y = x then z else J 150 y := rfl
  have e6 : zup J 150 x z 146 = J 146 := rfl
  have e5 : zup J 150 x z 145 = J 145 := rfl
  unfold uoV
  rw [e6, e5, e]
  by_cases w : y = x
  · rw [if_pos w, if_pos w, w, if_pos ax]
  · rw [if_neg w, if_neg w]
theorem SLV.up {m0 m x z : Int} {T sh lv ρ : Int → Int} {J : zJ} (h : SLV m0 T sh lv ρ J m) (ax : J 146 x = J 145 10) (hz : 0 ≤ z → GCj ρ J m x z) : SLV m0 T sh lv ρ (zup J 150 x z) m := by
  have e : ∀ q, q < 18 → zup J 150 x z q = J q := fun q hq => zup_nc (by omega)
  refine ⟨h.1, h.2.1, fun y hy ey w => ?_⟩
  rw [uo_up ax] at w ⊢
  by_cases q : y = x
  · rw [if_pos q] at w ⊢
    rw [q]
    exact (hz w).of e
  · rw [if_neg q] at w ⊢
    exact (h.2.2 y hy ey w).of e
theorem EXK.up5 {m0 : Int} {k : Nat} {F : zJ × Int} {z x : Int} {J : zJ} (ax : J 146 x = J 145 10) (e : EXK (nNO m0) k F z J) : EXK (nNO m0) k F z (zup J 150 x z) := by
  rcases e with q | q | ⟨q1, q2, q3, q4, q5⟩
  · exact Or.inl q
  · exact Or.inr (Or.inl q)
  · exact Or.inr (Or.inr ⟨q1, q2, q3.f (fun c hc => zup_nc (by omega)), q4, fun y hy => by
      rw [uo_up ax]
      split
      · omega
      · exact q5 y hy⟩)
theorem gcj_w {ρ : Int → Int} {J : zJ} {m t x : Int} (hx : 0 ≤ x ∧ x < m) (hv : J 7 x < 0) (e : ρ t = x) : GCj ρ J m t x := ⟨hx, fun J' m' S' g hS E k => by
  have s := g.2.2.2.1.1 x hx.1 hx.2
  have m1 := g.1
  have d : J' 12 x = 1 := ct_d1 g.2.1 ⟨hx.1, by omega⟩ (by rw [s.1]; exact hv)
  have eh := (E.tm g.2.1 g.2.2.1 (t := x) ⟨hx.1, by omega⟩).1
  cases k with
  | zero => exact Or.inr ⟨grO_0f, by omega⟩
  | succ k =>
    rw [grO_s, if_pos hS, e, eh, s.1, if_pos hv]
    exact Or.inl ⟨rfl, by omega⟩⟩
theorem ct_vu {J : zJ} {m a b : Int} (C : CT J m) (ha : 0 ≤ a ∧ a < m) (hb : 0 ≤ b ∧ b < m) (h : J 7 a < 0) (e : J 7 a = J 7 b) : a = b := by
  have ar : arh (J 3) (J 7 a) = 0 := by unfold arh; rw [if_pos h]
  have w := C.ar ha.1 ha.2
  refine isT_u (h := J 7 a) (a := 0) (b := 0) (c := 0) C w.2.2.2 ha hb ⟨rfl, fun y => ?_, fun y => ?_, fun y => ?_⟩ ⟨e.symm, fun y => ?_, fun y => ?_, fun y => ?_⟩ <;> (rw [ar] at y; omega)
theorem exd_w {I : zJ → Prop} {ρ : Int → Int} {k : Nat} {J S J' : zJ} {m t x z : Int} (hG : S 164 21 = 0) (E : A0 J S) (C : CT J m) (hm : J 6 12 = m) (hx : 0 ≤ x ∧ x < m) (hv : 0 ≤ J 7 x) (hk : ¬ k = 0) (er : ρ t = x) (e : EXK I (k - 1 + 1) (gR (fun H i => grO ρ (k - 1) H (H 167 (3 * (0 + x) + i))) S (J 7 x)) z J') : EXK I k (grO ρ k S t) z J' := by
  obtain ⟨k, rfl⟩ : ∃ k', k = k' + 1 := ⟨k - 1, by omega⟩
  rw [grO_s, if_pos hG, er, (E.tm C hm hx).1, if_neg (by omega)]
  exact e
set_option maxHeartbeats 4000000 in
set_option maxRecDepth 100000 in
theorem u_solvedTerm {l : Launch} {G : tb_G} (hl : l.stackTraces = false) (n : Nat) (J : zJ) (x : Int) (lv : Int) (hr_x : -2147483648 ≤ x ∧ x < 2147483648) (hr_lv : -2147483648 ≤ lv ∧ lv < 2147483648) (m0 : Int) (T sh lvv ρ : Int → Int) (t : Int) (d9 : Nat) (hd9 : 4 ≤ d9) (H : ∀ (J : zJ) (x : Int) (hr_x : -2147483648 ≤ x ∧ x < 2147483648) (m : Int) (C : CT J m) (hm : J 6 12 = m) (hU : UI J 0 m) (hm0 : m0 ≤ m) (hx : VN 400 m0 x) (hV : SLV m0 T sh lvv ρ J m) (hC : CRO m0 T sh lvv ρ J) (ax : J 146 x = J 145 10) (rx : T x = x), tz_Ok l G M_X10_solvedClass d9 0 0 [.ref 145, zi x, zi (lv + 1)] n J (zqi (fun z J' => ∃ m', UG J' J m m' ∧ (z = -3 ∨ (0 ≤ z ∧ z < m')) ∧ SLV m0 T sh lvv ρ J' m' ∧ (0 ≤ z → GCj ρ J' m' x z) ∧ ∀ S, S 164 21 = 0 → A0 J S → nNO m0 J → EXK (nNO m0) (7 - (lv + 1)).toNat (grO ρ (7 - (lv + 1)).toNat S x) z J')) zN) (m : Int) (C : CT J m) (hm : J 6 12 = m) (hU : UI J 0 m) (hm0 : m0 ≤ m) (hx : VN 400 m0 x) (hV : SLV m0 T sh lvv ρ J m) (hC : CRO m0 T sh lvv ρ J) (hv : 0 ≤ J 7 x) (er : ρ t = x) (hlv6 : lv ≤ 6) : tz_Ok l G M_X10_solvedTerm (d9 + 1) 0 0 [.ref 145, zi x, zi lv] n J (zqi (fun z J' => ∃ m', UG J' J m m' ∧ (z = -3 ∨ (0 ≤ z ∧ z < m')) ∧ SLV m0 T sh lvv ρ J' m' ∧ (0 ≤ z → GCj ρ J' m' t z) ∧ ∀ S, S 164 21 = 0 → A0 J S → nNO m0 J → EXK (nNO m0) (7 - lv).toNat (grO ρ (7 - lv).toNat S t) z J')) zN := by
  refine tz_Ok.of hl (by decide +kernel) rfl (tb_c1 rfl) (Nat.le_of_ble_eq_true rfl) ?_
  show tz_At l G M_X10_solvedTerm (tb_rm (d9 + 1) 0 0) none (tb_ZM G 0 0 (zQ n 0 (zqi (fun z J' => ∃ m', UG J' J m m' ∧ (z = -3 ∨ (0 ≤ z ∧ z < m')) ∧ SLV m0 T sh lvv ρ J' m' ∧ (0 ≤ z → GCj ρ J' m' t z) ∧ ∀ S, S 164 21 = 0 → A0 J S → nNO m0 J → EXK (nNO m0) (7 - lv).toNat (grO ρ (7 - lv).toNat S t) z J'))) (zX n 0 zN)) 0 0 n J 0 [some (.ref 145), some (zi x), some (zi lv), none, none, none, none] []
  have hb := C.told
  have hz := hx.z
  have ht := (show nd 0 m x from Or.inl (by omega)).ix hb.2
  have tx9 : tm x = x := by unfold tm; rw [if_pos (by omega)]
  have sx9 : sd x = 0 := by unfold sd; rw [if_pos (by omega)]
  have ha := C.ar ht.1 ht.2
  have ha8 := ha
  have t8 : J 8 (tm x) = J 8 x := by rw [tx9]
  have hlv := hr_lv
  refine tz_aload_n (pc := 0) dX10_solvedTerm_0 rfl rfl ?_
  refine tz_fR (pc := 1) dX10_solvedTerm_1 fl_X10_46 r_145_0 ?_
  refine tz_fR (pc := 4) dX10_solvedTerm_4 fl_X10_90 r_6_2 ?_
  refine tz_aload_n (pc := 7) dX10_solvedTerm_7 rfl rfl ?_
  refine tz_iload_n (pc := 8) dX10_solvedTerm_8 rfl rfl ?_
  refine tz_cV (pc := 9) (c_uTerm hl n _ _ (by omega) (by omega)) vl_X10_68 dX10_solvedTerm_9 o_145 rfl rfl (Nat.le_of_ble_eq_true rfl) ⟨(show 0 + 1 ≤ d9 + 1 by omega), (show 8 + (2 + 11) + 40 * (0) ≤ 40 * (d9 + 1) by omega)⟩ rfl rfl (Nat.le_of_ble_eq_true rfl) (Nat.le_of_ble_eq_true rfl) (fun r9 J_9 hq9 => ?_)
  obtain ⟨z_9, rfl, hz_9, rfl, rfl⟩ := hq9
  refine tz_aL (pc := 12) (z := (tm x)) (v := (J 8 (tm x))) dX10_solvedTerm_12 a_8 rfl (by omega) rfl (fun r_12 => ?_)
  refine tz_istore_n (pc := 13) (L2 := [_, _, _, _, _, _, _]) dX10_solvedTerm_13 rfl (by decide) rfl ?_
  refine tz_iload_n (pc := 14) dX10_solvedTerm_14 rfl rfl ?_
  refine tz_iconst (pc := 15) dX10_solvedTerm_15 ?_
  refine tz_icmp_ge (pc := 16) (tgt := 23) dX10_solvedTerm_16 (by decide) (by omega) (by decide) (fun h_16 => ?_) (fun h_16 => ?_)
  · refine tz_aload_n (pc := 23) dX10_solvedTerm_23 rfl rfl ?_
    refine tz_aload_n (pc := 24) dX10_solvedTerm_24 rfl rfl ?_
    refine tz_aload_n (pc := 25) dX10_solvedTerm_25 rfl rfl ?_
    refine tz_iload_n (pc := 26) dX10_solvedTerm_26 rfl rfl ?_
    refine tz_iconst (pc := 27) dX10_solvedTerm_27 ?_
    have s_28 := ((UG.rf C hm hU)).1.2.2.2.1.1 (tm x) ht.1 ht.2
    have c_28 := ((UG.rf C hm hU)).1.1
    refine tz_cV (pc := 28) (u_part hl n _ _ _ (by omega) (by omega) 0 m ((UG.rf C hm hU)).1.2.1 (Or.inl (by omega)) (by rw [s_28.2.1]; omega)) vl_X10_93 dX10_solvedTerm_28 o_145 rfl rfl (Nat.le_of_ble_eq_true rfl) ⟨(show 1 + 1 ≤ d9 + 1 by omega), (show 8 + (3 + 11) + 40 * (1) ≤ 40 * (d9 + 1) by omega)⟩ rfl rfl (Nat.le_of_ble_eq_true rfl) (Nat.le_of_ble_eq_true rfl) (fun r9 J_28 hq9 => ?_)
    obtain ⟨z_28, rfl, hz_28, rfl, n_28, p_28⟩ := hq9
    have k_28 : z_28 = J 9 (x * 3 + 0) := by rw [← p_28, tx9, sx9, ((UG.rf C hm hU)).1.2.2.2.1.2 _ (by omega) (by omega)]; omega
    have a_28 := C.arg hz.1 (show x < m by omega) (i := 0) (by omega) (by omega)
    have v_28 : VN 400 m0 z_28 := by rw [k_28]; exact ⟨by omega, by omega⟩
    have b_31 := ((UG.rf C hm hU)).1.2.1.told
    have r_31 := n_28.rg b_31.2
    refine tz_cV (pc := 31) (u_topM hl n _ _ (by omega) 0 m 400 m0 b_31.2 n_28 ((UG.rf C hm hU)).2.1 hV.1 (Or.inl rfl) v_28) vl_X10_54 dX10_solvedTerm_31 o_145 rfl rfl (Nat.le_of_ble_eq_true rfl) ⟨(show 2 + 1 ≤ d9 + 1 by omega), (show 8 + (4 + 11) + 40 * (2) ≤ 40 * (d9 + 1) by omega)⟩ rfl rfl (Nat.le_of_ble_eq_true rfl) (Nat.le_of_ble_eq_true rfl) (fun r9 J_31 hq9 => ?_)
    obtain ⟨z_31, rfl, hz_31, ⟨u_31, ⟨v_31, w_31⟩, f_31⟩, e_31, t_31⟩ := hq9
    have q_31 := UG.top (UG.rf C hm hU) u_31 f_31
    have y_31 := v_31.z
    have l_31 := hV.e e_31 (fun q hq => f_31 q (by simp [zbut]; omega))
    have o_31 : z_31 = T z_28 := by rw [t_31, (hV.2.1 _ v_28).1]
    have x_31 := hC.1 _ v_28
    rw [← o_31] at x_31
    refine tz_iload_n (pc := 34) dX10_solvedTerm_34 rfl rfl ?_
    refine tz_iconst (pc := 35) dX10_solvedTerm_35 ?_
    refine tz_iadd (pc := 36) (v := lv + 1) dX10_solvedTerm_36 rfl ?_
    refine tz_cV (pc := 37) (H _ _ (by omega) m (q_31).1.2.1 (q_31).1.2.2.1 (q_31).2.1 (by have := (q_31).1.1; omega) x_31.1 l_31 (hC.gj (m' := m) hm0 (q_31).1.2.2.2.1) (by rw [w_31, u_31.2.1]) x_31.2.1) vl_X10_102 dX10_solvedTerm_37 o_145 rfl rfl (Nat.le_of_ble_eq_true rfl) ⟨(show d9 + 1 ≤ d9 + 1 by omega), (show 8 + (4 + 11) + 40 * (d9) ≤ 40 * (d9 + 1) by omega)⟩ rfl rfl (Nat.le_of_ble_eq_true rfl) (Nat.le_of_ble_eq_true rfl) (fun r9 J_37 hq9 => ?_)
    obtain ⟨z_37, rfl, hz_37, m_37, g_37, h_37, l_37, gc_37, ex_37⟩ := hq9
    have q_37 := UG.tr q_31 g_37
    have d_37 := q_37.1.1
    have e_37 := g_37.1.1
    have gg_37 : GX [146, 147, 148, 149, 150, 154] J_37 J m m_37 := GX.tr ((GX.rf ((UG.rf C hm hU)).1.2.1 ((UG.rf C hm hU)).1.2.2.1).off rfl f_31) g_37.1
    have k9_37 : z_28 = J 9 (x * 3 + 0) := by rw [k_28, ((UG.rf C hm hU)).1.2.2.2.1.2 _ (by omega) (by omega)]
    have gv_37 : 0 ≤ z_37 → GCj ρ J_37 m_37 (J 9 (x * 3 + 0)) z_37 := fun q9 => by rw [← k9_37]; exact (gc_37 q9).rr x_31.2.2
    have r_37 : ∀ S, S 164 21 = 0 → A0 J S → nNO m0 J → EXK (nNO m0) ((7 - lv).toNat - 1) ((fun (H : zJ) (i : Int) => grO ρ ((7 - lv).toNat - 1) H (H 167 (3 * (0 + x) + i))) S 0) z_37 J_37 := fun S h9 E9 N9 => by (try dsimp only); rw [(E9.tm ((UG.rf C hm hU)).1.2.1 ((UG.rf C hm hU)).1.2.2.1 (t := x) (by have := ((UG.rf C hm hU)).1.1; omega)).2.2 0 (by decide) (by rw [(((UG.rf C hm hU)).1.2.2.2.1.1 x hz.1 (by omega)).2.1]; omega), ← k9_37, grO_r x_31.2.2, show (7 - lv).toNat - 1 = (7 - (lv + 1)).toNat from by omega]; exact ex_37 S h9 (E9.f (fun c hc => f_31 c (by simp [zbut]; omega))) (N9.e e_31)
    refine tz_istore (pc := 40) (L2 := [_, _, _, _, _, _, _]) dX10_solvedTerm_40 (by decide) rfl ?_
    refine tz_iload_n (pc := 42) dX10_solvedTerm_42 rfl rfl ?_
    refine tz_iconst (pc := 43) dX10_solvedTerm_43 ?_
    refine tz_icmp_ge (pc := 44) (tgt := 51) dX10_solvedTerm_44 (by decide) (by omega) (by decide) (fun h_44 => ?_) (fun h_44 => ?_)
    · refine tz_aload_n (pc := 51) dX10_solvedTerm_51 rfl rfl ?_
      refine tz_aload_n (pc := 52) dX10_solvedTerm_52 rfl rfl ?_
      refine tz_aload_n (pc := 53) dX10_solvedTerm_53 rfl rfl ?_
      refine tz_iload_n (pc := 54) dX10_solvedTerm_54 rfl rfl ?_
      refine tz_iconst (pc := 55) dX10_solvedTerm_55 ?_
      have s_56 := (q_37).1.2.2.2.1.1 (tm x) ht.1 ht.2
      have c_56 := (q_37).1.1
      refine tz_cV (pc := 56) (u_part hl n _ _ _ (by omega) (by omega) 0 m_37 (q_37).1.2.1 (Or.inl (by omega)) (by rw [s_56.2.1]; omega)) vl_X10_93 dX10_solvedTerm_56 o_145 rfl rfl (Nat.le_of_ble_eq_true rfl) ⟨(show 1 + 1 ≤ d9 + 1 by omega), (show 8 + (3 + 11) + 40 * (1) ≤ 40 * (d9 + 1) by omega)⟩ rfl rfl (Nat.le_of_ble_eq_true rfl) (Nat.le_of_ble_eq_true rfl) (fun r9 J_56 hq9 => ?_)
      obtain ⟨z_56, rfl, hz_56, rfl, n_56, p_56⟩ := hq9
      have k_56 : z_56 = J 9 (x * 3 + 1) := by rw [← p_56, tx9, sx9, (q_37).1.2.2.2.1.2 _ (by omega) (by omega)]; omega
      have a_56 := C.arg hz.1 (show x < m by omega) (i := 1) (by omega) (by omega)
      have v_56 : VN 400 m0 z_56 := by rw [k_56]; exact ⟨by omega, by omega⟩
      have b_59 := (q_37).1.2.1.told
      have r_59 := n_56.rg b_59.2
      refine tz_cV (pc := 59) (u_topM hl n _ _ (by omega) 0 m_37 400 m0 b_59.2 n_56 (q_37).2.1 l_37.1 (Or.inl rfl) v_56) vl_X10_54 dX10_solvedTerm_59 o_145 rfl rfl (Nat.le_of_ble_eq_true rfl) ⟨(show 2 + 1 ≤ d9 + 1 by omega), (show 8 + (4 + 11) + 40 * (2) ≤ 40 * (d9 + 1) by omega)⟩ rfl rfl (Nat.le_of_ble_eq_true rfl) (Nat.le_of_ble_eq_true rfl) (fun r9 J_59 hq9 => ?_)
      obtain ⟨z_59, rfl, hz_59, ⟨u_59, ⟨v_59, w_59⟩, f_59⟩, e_59, t_59⟩ := hq9
      have q_59 := UG.top q_37 u_59 f_59
      have y_59 := v_59.z
      have l_59 := l_37.e e_59 (fun q hq => f_59 q (by simp [zbut]; omega))
      have o_59 : z_59 = T z_56 := by rw [t_59, (l_37.2.1 _ v_56).1]
      have x_59 := hC.1 _ v_56
      rw [← o_59] at x_59
      refine tz_iload_n (pc := 62) dX10_solvedTerm_62 rfl rfl ?_
      refine tz_iconst (pc := 63) dX10_solvedTerm_63 ?_
      refine tz_iadd (pc := 64) (v := lv + 1) dX10_solvedTerm_64 rfl ?_
      refine tz_cV (pc := 65) (H _ _ (by omega) m_37 (q_59).1.2.1 (q_59).1.2.2.1 (q_59).2.1 (by have := (q_59).1.1; omega) x_59.1 l_59 (hC.gj (m' := m) hm0 (q_59).1.2.2.2.1) (by rw [w_59, u_59.2.1]) x_59.2.1) vl_X10_102 dX10_solvedTerm_65 o_145 rfl rfl (Nat.le_of_ble_eq_true rfl) ⟨(show d9 + 1 ≤ d9 + 1 by omega), (show 8 + (4 + 11) + 40 * (d9) ≤ 40 * (d9 + 1) by omega)⟩ rfl rfl (Nat.le_of_ble_eq_true rfl) (Nat.le_of_ble_eq_true rfl) (fun r9 J_65 hq9 => ?_)
      obtain ⟨z_65, rfl, hz_65, m_65, g_65, h_65, l_65, gc_65, ex_65⟩ := hq9
      have q_65 := UG.tr q_59 g_65
      have d_65 := q_65.1.1
      have e_65 := g_65.1.1
      have gg_65 : GX [146, 147, 148, 149, 150, 154] J_65 J_37 m_37 m_65 := GX.tr ((GX.rf (q_37).1.2.1 (q_37).1.2.2.1).off rfl f_59) g_65.1
      have k9_65 : z_56 = J_37 9 (x * 3 + 1) := by rw [k_56, (q_37).1.2.2.2.1.2 _ (by omega) (by omega)]
      have gv_65 : 0 ≤ z_65 → GCj ρ J_65 m_65 (J_37 9 (x * 3 + 1)) z_65 := fun q9 => by rw [← k9_65]; exact (gc_65 q9).rr x_59.2.2
      have r_65 : ∀ S, S 164 21 = 0 → A0 J_37 S → nNO m0 J_37 → EXK (nNO m0) ((7 - lv).toNat - 1) ((fun (H : zJ) (i : Int) => grO ρ ((7 - lv).toNat - 1) H (H 167 (3 * (0 + x) + i))) S 1) z_65 J_65 := fun S h9 E9 N9 => by (try dsimp only); rw [(E9.tm (q_37).1.2.1 (q_37).1.2.2.1 (t := x) (by have := (q_37).1.1; omega)).2.2 1 (by decide) (by rw [((q_37).1.2.2.2.1.1 x hz.1 (by omega)).2.1]; omega), ← k9_65, grO_r x_59.2.2, show (7 - lv).toNat - 1 = (7 - (lv + 1)).toNat from by omega]; exact ex_65 S h9 (E9.f (fun c hc => f_59 c (by simp [zbut]; omega))) (N9.e e_59)
      refine tz_istore (pc := 68) (L2 := [_, _, _, _, _, _, _]) dX10_solvedTerm_68 (by decide) rfl ?_
      refine tz_iload_n (pc := 70) dX10_solvedTerm_70 rfl rfl ?_
      refine tz_iconst (pc := 71) dX10_solvedTerm_71 ?_
      refine tz_icmp_ge (pc := 72) (tgt := 79) dX10_solvedTerm_72 (by decide) (by omega) (by decide) (fun h_72 => ?_) (fun h_72 => ?_)
      · refine tz_aload_n (pc := 79) dX10_solvedTerm_79 rfl rfl ?_
        refine tz_aload_n (pc := 80) dX10_solvedTerm_80 rfl rfl ?_
        refine tz_aload_n (pc := 81) dX10_solvedTerm_81 rfl rfl ?_
        refine tz_iload_n (pc := 82) dX10_solvedTerm_82 rfl rfl ?_
        refine tz_iconst (pc := 83) dX10_solvedTerm_83 ?_
        have s_84 := (q_65).1.2.2.2.1.1 (tm x) ht.1 ht.2
        have c_84 := (q_65).1.1
        refine tz_cV (pc := 84) (u_part hl n _ _ _ (by omega) (by omega) 0 m_65 (q_65).1.2.1 (Or.inl (by omega)) (by rw [s_84.2.1]; omega)) vl_X10_93 dX10_solvedTerm_84 o_145 rfl rfl (Nat.le_of_ble_eq_true rfl) ⟨(show 1 + 1 ≤ d9 + 1 by omega), (show 8 + (3 + 11) + 40 * (1) ≤ 40 * (d9 + 1) by omega)⟩ rfl rfl (Nat.le_of_ble_eq_true rfl) (Nat.le_of_ble_eq_true rfl) (fun r9 J_84 hq9 => ?_)
        obtain ⟨z_84, rfl, hz_84, rfl, n_84, p_84⟩ := hq9
        have k_84 : z_84 = J 9 (x * 3 + 2) := by rw [← p_84, tx9, sx9, (q_65).1.2.2.2.1.2 _ (by omega) (by omega)]; omega
        have a_84 := C.arg hz.1 (show x < m by omega) (i := 2) (by omega) (by omega)
        have v_84 : VN 400 m0 z_84 := by rw [k_84]; exact ⟨by omega, by omega⟩
        have b_87 := (q_65).1.2.1.told
        have r_87 := n_84.rg b_87.2
        refine tz_cV (pc := 87) (u_topM hl n _ _ (by omega) 0 m_65 400 m0 b_87.2 n_84 (q_65).2.1 l_65.1 (Or.inl rfl) v_84) vl_X10_54 dX10_solvedTerm_87 o_145 rfl rfl (Nat.le_of_ble_eq_true rfl) ⟨(show 2 + 1 ≤ d9 + 1 by omega), (show 8 + (4 + 11) + 40 * (2) ≤ 40 * (d9 + 1) by omega)⟩ rfl rfl (Nat.le_of_ble_eq_true rfl) (Nat.le_of_ble_eq_true rfl) (fun r9 J_87 hq9 => ?_)
        obtain ⟨z_87, rfl, hz_87, ⟨u_87, ⟨v_87, w_87⟩, f_87⟩, e_87, t_87⟩ := hq9
        have q_87 := UG.top q_65 u_87 f_87
        have y_87 := v_87.z
        have l_87 := l_65.e e_87 (fun q hq => f_87 q (by simp [zbut]; omega))
        have o_87 : z_87 = T z_84 := by rw [t_87, (l_65.2.1 _ v_84).1]
        have x_87 := hC.1 _ v_84
        rw [← o_87] at x_87
        refine tz_iload_n (pc := 90) dX10_solvedTerm_90 rfl rfl ?_
        refine tz_iconst (pc := 91) dX10_solvedTerm_91 ?_
        refine tz_iadd (pc := 92) (v := lv + 1) dX10_solvedTerm_92 rfl ?_
        refine tz_cV (pc := 93) (H _ _ (by omega) m_65 (q_87).1.2.1 (q_87).1.2.2.1 (q_87).2.1 (by have := (q_87).1.1; omega) x_87.1 l_87 (hC.gj (m' := m) hm0 (q_87).1.2.2.2.1) (by rw [w_87, u_87.2.1]) x_87.2.1) vl_X10_102 dX10_solvedTerm_93 o_145 rfl rfl (Nat.le_of_ble_eq_true rfl) ⟨(show d9 + 1 ≤ d9 + 1 by omega), (show 8 + (4 + 11) + 40 * (d9) ≤ 40 * (d9 + 1) by omega)⟩ rfl rfl (Nat.le_of_ble_eq_true rfl) (Nat.le_of_ble_eq_true rfl) (fun r9 J_93 hq9 => ?_)
        obtain ⟨z_93, rfl, hz_93, m_93, g_93, h_93, l_93, gc_93, ex_93⟩ := hq9
        have q_93 := UG.tr q_87 g_93
        have d_93 := q_93.1.1
        have e_93 := g_93.1.1
        have gg_93 : GX [146, 147, 148, 149, 150, 154] J_93 J_65 m_65 m_93 := GX.tr ((GX.rf (q_65).1.2.1 (q_65).1.2.2.1).off rfl f_87) g_93.1
        have k9_93 : z_84 = J_65 9 (x * 3 + 2) := by rw [k_84, (q_65).1.2.2.2.1.2 _ (by omega) (by omega)]
        have gv_93 : 0 ≤ z_93 → GCj ρ J_93 m_93 (J_65 9 (x * 3 + 2)) z_93 := fun q9 => by rw [← k9_93]; exact (gc_93 q9).rr x_87.2.2
        have r_93 : ∀ S, S 164 21 = 0 → A0 J_65 S → nNO m0 J_65 → EXK (nNO m0) ((7 - lv).toNat - 1) ((fun (H : zJ) (i : Int) => grO ρ ((7 - lv).toNat - 1) H (H 167 (3 * (0 + x) + i))) S 2) z_93 J_93 := fun S h9 E9 N9 => by (try dsimp only); rw [(E9.tm (q_65).1.2.1 (q_65).1.2.2.1 (t := x) (by have := (q_65).1.1; omega)).2.2 2 (by decide) (by rw [((q_65).1.2.2.2.1.1 x hz.1 (by omega)).2.1]; omega), ← k9_93, grO_r x_87.2.2, show (7 - lv).toNat - 1 = (7 - (lv + 1)).toNat from by omega]; exact ex_93 S h9 (E9.f (fun c hc => f_87 c (by simp [zbut]; omega))) (N9.e e_87)
        refine tz_istore (pc := 96) (L2 := [_, _, _, _, _, _, _]) dX10_solvedTerm_96 (by decide) rfl ?_
        refine tz_aload_n (pc := 98) dX10_solvedTerm_98 rfl rfl ?_
        refine tz_fR (pc := 99) dX10_solvedTerm_99 fl_X10_46 r_145_0 ?_
        refine tz_aload_n (pc := 102) dX10_solvedTerm_102 rfl rfl ?_
        refine tz_fR (pc := 103) dX10_solvedTerm_103 fl_X10_46 r_145_0 ?_
        refine tz_fR (pc := 106) dX10_solvedTerm_106 fl_X10_84 r_6_1 ?_
        refine tz_aload_n (pc := 109) dX10_solvedTerm_109 rfl rfl ?_
        refine tz_iload_n (pc := 110) dX10_solvedTerm_110 rfl rfl ?_
        refine tz_cV (pc := 111) (c_uTerm hl n _ _ (by omega) (by omega)) vl_X10_68 dX10_solvedTerm_111 o_145 rfl rfl (Nat.le_of_ble_eq_true rfl) ⟨(show 0 + 1 ≤ d9 + 1 by omega), (show 8 + (2 + 11) + 40 * (0) ≤ 40 * (d9 + 1) by omega)⟩ rfl rfl (Nat.le_of_ble_eq_true rfl) (Nat.le_of_ble_eq_true rfl) (fun r9 J_111 hq9 => ?_)
        obtain ⟨z_111, rfl, hz_111, rfl, rfl⟩ := hq9
        refine tz_aL (pc := 114) (z := (tm x)) (v := (J_93 7 (tm x))) dX10_solvedTerm_114 a_7 rfl (by omega) rfl (fun r_114 => ?_)
        refine tz_iload (pc := 115) dX10_solvedTerm_115 rfl ?_
        refine tz_iload (pc := 117) dX10_solvedTerm_117 rfl ?_
        refine tz_iload (pc := 119) dX10_solvedTerm_119 rfl ?_
        have z_9 := (q_93).1.2.1.ar (t := tm x) ht.1 (by have := (q_93).1.1; omega)
        have z_8 := (q_93).1.2.1.told
        have s9 := (q_93).1.2.2.2.1.1 (tm x) ht.1 ht.2
        have m9 := (q_93).1.1
        refine tz_cV (pc := 121) (c_made hl n _ _ _ _ _ (by omega) (by omega) (by omega) (by omega) m_93 (q_93).1.2.1 (q_93).1.2.2.1 (by omega) (ltA_of (by omega) (by omega) (by omega))) vl_X10_108 dX10_solvedTerm_121 o_6 rfl rfl (Nat.le_of_ble_eq_true rfl) ⟨(show 2 + 1 ≤ d9 + 1 by omega), (show 8 + (11 + 11) + 40 * (2) ≤ 40 * (d9 + 1) by omega)⟩ rfl rfl (Nat.le_of_ble_eq_true rfl) (Nat.le_of_ble_eq_true rfl) (fun r9 J_121 hq9 => ?_)
        obtain ⟨z_121, rfl, hz_121, p_121⟩ := hq9
        obtain ⟨m_121, g_121, h_121⟩ := GR.made p_121 (by omega)
        have q_121 := UG.made q_93 g_121
        have l_121 := l_93.made (by omega) (Or.inr (fun y a c e => by have := (((q_93).2.1 y a c).2 (by rw [e])).2.2.2.1.z; exact this)) g_121
        exact tz_iret (pc := 124) (z := z_121) dX10_solvedTerm_124 rfl (Nat.le_of_ble_eq_true rfl) (Nat.le_of_ble_eq_true rfl) ⟨Nat.le_refl _, Nat.le_add_right _ _⟩ ⟨_, rfl, (by omega), ⟨m_121, q_121, h_121, l_121, fun q9 => by have w9 := gcE (X := [146, 147, 148, 149, 150, 154]) ⟨rfl, rfl⟩ C hm ⟨hz.1, (by omega)⟩ hv er (Or.inl ⟨by omega, gg_37, gv_37⟩) (Or.inl ⟨by omega, gg_65, gv_65⟩) (Or.inl ⟨by omega, gg_93, gv_93⟩) (by rw [tx9] at p_121; rw [show J 7 x = J_93 7 x from (((q_93).1.2.2.2.1.1 x hz.1 (by omega)).1).symm]; exact p_121) q9; rw [g_121.2.2.1] at w9; exact w9, fun S hG E N => by exact exd_w hG E C hm ⟨hz.1, (by omega)⟩ hv (by omega) er (gpD (X := [146, 147, 148, 149, 150, 154]) ⟨rfl, rfl⟩ (fun S i h => grO_f h) hG E N C hm (C.ar hz.1 (by omega)).2.2 (C.2.1 x hz.1 (by omega)).1.1.symm (Or.inl ⟨by omega, gg_37, h_37, r_37⟩) (Or.inl ⟨by omega, gg_65, h_65, r_65⟩) (Or.inl ⟨by omega, gg_93, h_93, r_93⟩) (fun N9 => N9.made g_121) (by rw [tx9] at p_121; rw [show J 7 x = J_93 7 x from (((q_93).1.2.2.2.1.1 x hz.1 (by omega)).1).symm]; exact p_121))⟩⟩
      · refine tz_iconst (pc := 75) dX10_solvedTerm_75 ?_
        refine tz_goto (pc := 76) (tgt := 96) dX10_solvedTerm_76 (by decide) ?_
        refine tz_istore (pc := 96) (L2 := [_, _, _, _, _, _, _]) dX10_solvedTerm_96 (by decide) rfl ?_
        refine tz_aload_n (pc := 98) dX10_solvedTerm_98 rfl rfl ?_
        refine tz_fR (pc := 99) dX10_solvedTerm_99 fl_X10_46 r_145_0 ?_
        refine tz_aload_n (pc := 102) dX10_solvedTerm_102 rfl rfl ?_
        refine tz_fR (pc := 103) dX10_solvedTerm_103 fl_X10_46 r_145_0 ?_
        refine tz_fR (pc := 106) dX10_solvedTerm_106 fl_X10_84 r_6_1 ?_
        refine tz_aload_n (pc := 109) dX10_solvedTerm_109 rfl rfl ?_
        refine tz_iload_n (pc := 110) dX10_solvedTerm_110 rfl rfl ?_
        refine tz_cV (pc := 111) (c_uTerm hl n _ _ (by omega) (by omega)) vl_X10_68 dX10_solvedTerm_111 o_145 rfl rfl (Nat.le_of_ble_eq_true rfl) ⟨(show 0 + 1 ≤ d9 + 1 by omega), (show 8 + (2 + 11) + 40 * (0) ≤ 40 * (d9 + 1) by omega)⟩ rfl rfl (Nat.le_of_ble_eq_true rfl) (Nat.le_of_ble_eq_true rfl) (fun r9 J_111 hq9 => ?_)
        obtain ⟨z_111, rfl, hz_111, rfl, rfl⟩ := hq9
        refine tz_aL (pc := 114) (z := (tm x)) (v := (J_65 7 (tm x))) dX10_solvedTerm_114 a_7 rfl (by omega) rfl (fun r_114 => ?_)
        refine tz_iload (pc := 115) dX10_solvedTerm_115 rfl ?_
        refine tz_iload (pc := 117) dX10_solvedTerm_117 rfl ?_
        refine tz_iload (pc := 119) dX10_solvedTerm_119 rfl ?_
        have z_9 := (q_65).1.2.1.ar (t := tm x) ht.1 (by have := (q_65).1.1; omega)
        have z_8 := (q_65).1.2.1.told
        have s9 := (q_65).1.2.2.2.1.1 (tm x) ht.1 ht.2
        have m9 := (q_65).1.1
        refine tz_cV (pc := 121) (c_made hl n _ _ _ _ _ (by omega) (by omega) (by omega) (by omega) m_65 (q_65).1.2.1 (q_65).1.2.2.1 (by omega) (ltA_of (by omega) (by omega) (by omega))) vl_X10_108 dX10_solvedTerm_121 o_6 rfl rfl (Nat.le_of_ble_eq_true rfl) ⟨(show 2 + 1 ≤ d9 + 1 by omega), (show 8 + (11 + 11) + 40 * (2) ≤ 40 * (d9 + 1) by omega)⟩ rfl rfl (Nat.le_of_ble_eq_true rfl) (Nat.le_of_ble_eq_true rfl) (fun r9 J_121 hq9 => ?_)
        obtain ⟨z_121, rfl, hz_121, p_121⟩ := hq9
        obtain ⟨m_121, g_121, h_121⟩ := GR.made p_121 (by omega)
        have q_121 := UG.made q_65 g_121
        have l_121 := l_65.made (by omega) (Or.inr (fun y a c e => by have := (((q_65).2.1 y a c).2 (by rw [e])).2.2.2.1.z; exact this)) g_121
        exact tz_iret (pc := 124) (z := z_121) dX10_solvedTerm_124 rfl (Nat.le_of_ble_eq_true rfl) (Nat.le_of_ble_eq_true rfl) ⟨Nat.le_refl _, Nat.le_add_right _ _⟩ ⟨_, rfl, (by omega), ⟨m_121, q_121, h_121, l_121, fun q9 => by have w9 := gcE (X := [146, 147, 148, 149, 150, 154]) ⟨rfl, rfl⟩ C hm ⟨hz.1, (by omega)⟩ hv er (Or.inl ⟨by omega, gg_37, gv_37⟩) (Or.inl ⟨by omega, gg_65, gv_65⟩) (Or.inr ⟨by omega, rfl, rfl⟩) (by rw [tx9] at p_121; rw [show J 7 x = J_65 7 x from (((q_65).1.2.2.2.1.1 x hz.1 (by omega)).1).symm]; exact p_121) q9; rw [g_121.2.2.1] at w9; exact w9, fun S hG E N => by exact exd_w hG E C hm ⟨hz.1, (by omega)⟩ hv (by omega) er (gpD (X := [146, 147, 148, 149, 150, 154]) ⟨rfl, rfl⟩ (fun S i h => grO_f h) hG E N C hm (C.ar hz.1 (by omega)).2.2 (C.2.1 x hz.1 (by omega)).1.1.symm (Or.inl ⟨by omega, gg_37, h_37, r_37⟩) (Or.inl ⟨by omega, gg_65, h_65, r_65⟩) (Or.inr ⟨by omega, rfl, rfl⟩) (fun N9 => N9.made g_121) (by rw [tx9] at p_121; rw [show J 7 x = J_65 7 x from (((q_65).1.2.2.2.1.1 x hz.1 (by omega)).1).symm]; exact p_121))⟩⟩
    · refine tz_iconst (pc := 47) dX10_solvedTerm_47 ?_
      refine tz_goto (pc := 48) (tgt := 68) dX10_solvedTerm_48 (by decide) ?_
      refine tz_istore (pc := 68) (L2 := [_, _, _, _, _, _, _]) dX10_solvedTerm_68 (by decide) rfl ?_
      refine tz_iload_n (pc := 70) dX10_solvedTerm_70 rfl rfl ?_
      refine tz_iconst (pc := 71) dX10_solvedTerm_71 ?_
      refine tz_icmp_ge (pc := 72) (tgt := 79) dX10_solvedTerm_72 (by decide) (by omega) (by decide) (fun h_72 => ?_) (fun h_72 => ?_)
      · refine tz_aload_n (pc := 79) dX10_solvedTerm_79 rfl rfl ?_
        refine tz_aload_n (pc := 80) dX10_solvedTerm_80 rfl rfl ?_
        refine tz_aload_n (pc := 81) dX10_solvedTerm_81 rfl rfl ?_
        refine tz_iload_n (pc := 82) dX10_solvedTerm_82 rfl rfl ?_
        refine tz_iconst (pc := 83) dX10_solvedTerm_83 ?_
        have s_84 := (q_37).1.2.2.2.1.1 (tm x) ht.1 ht.2
        have c_84 := (q_37).1.1
        refine tz_cV (pc := 84) (u_part hl n _ _ _ (by omega) (by omega) 0 m_37 (q_37).1.2.1 (Or.inl (by omega)) (by rw [s_84.2.1]; omega)) vl_X10_93 dX10_solvedTerm_84 o_145 rfl rfl (Nat.le_of_ble_eq_true rfl) ⟨(show 1 + 1 ≤ d9 + 1 by omega), (show 8 + (3 + 11) + 40 * (1) ≤ 40 * (d9 + 1) by omega)⟩ rfl rfl (Nat.le_of_ble_eq_true rfl) (Nat.le_of_ble_eq_true rfl) (fun r9 J_84 hq9 => ?_)
        obtain ⟨z_84, rfl, hz_84, rfl, n_84, p_84⟩ := hq9
        have k_84 : z_84 = J 9 (x * 3 + 2) := by rw [← p_84, tx9, sx9, (q_37).1.2.2.2.1.2 _ (by omega) (by omega)]; omega
        have a_84 := C.arg hz.1 (show x < m by omega) (i := 2) (by omega) (by omega)
        have v_84 : VN 400 m0 z_84 := by rw [k_84]; exact ⟨by omega, by omega⟩
        have b_87 := (q_37).1.2.1.told
        have r_87 := n_84.rg b_87.2
        refine tz_cV (pc := 87) (u_topM hl n _ _ (by omega) 0 m_37 400 m0 b_87.2 n_84 (q_37).2.1 l_37.1 (Or.inl rfl) v_84) vl_X10_54 dX10_solvedTerm_87 o_145 rfl rfl (Nat.le_of_ble_eq_true rfl) ⟨(show 2 + 1 ≤ d9 + 1 by omega), (show 8 + (4 + 11) + 40 * (2) ≤ 40 * (d9 + 1) by omega)⟩ rfl rfl (Nat.le_of_ble_eq_true rfl) (Nat.le_of_ble_eq_true rfl) (fun r9 J_87 hq9 => ?_)
        obtain ⟨z_87, rfl, hz_87, ⟨u_87, ⟨v_87, w_87⟩, f_87⟩, e_87, t_87⟩ := hq9
        have q_87 := UG.top q_37 u_87 f_87
        have y_87 := v_87.z
        have l_87 := l_37.e e_87 (fun q hq => f_87 q (by simp [zbut]; omega))
        have o_87 : z_87 = T z_84 := by rw [t_87, (l_37.2.1 _ v_84).1]
        have x_87 := hC.1 _ v_84
        rw [← o_87] at x_87
        refine tz_iload_n (pc := 90) dX10_solvedTerm_90 rfl rfl ?_
        refine tz_iconst (pc := 91) dX10_solvedTerm_91 ?_
        refine tz_iadd (pc := 92) (v := lv + 1) dX10_solvedTerm_92 rfl ?_
        refine tz_cV (pc := 93) (H _ _ (by omega) m_37 (q_87).1.2.1 (q_87).1.2.2.1 (q_87).2.1 (by have := (q_87).1.1; omega) x_87.1 l_87 (hC.gj (m' := m) hm0 (q_87).1.2.2.2.1) (by rw [w_87, u_87.2.1]) x_87.2.1) vl_X10_102 dX10_solvedTerm_93 o_145 rfl rfl (Nat.le_of_ble_eq_true rfl) ⟨(show d9 + 1 ≤ d9 + 1 by omega), (show 8 + (4 + 11) + 40 * (d9) ≤ 40 * (d9 + 1) by omega)⟩ rfl rfl (Nat.le_of_ble_eq_true rfl) (Nat.le_of_ble_eq_true rfl) (fun r9 J_93 hq9 => ?_)
        obtain ⟨z_93, rfl, hz_93, m_93, g_93, h_93, l_93, gc_93, ex_93⟩ := hq9
        have q_93 := UG.tr q_87 g_93
        have d_93 := q_93.1.1
        have e_93 := g_93.1.1
        have gg_93 : GX [146, 147, 148, 149, 150, 154] J_93 J_37 m_37 m_93 := GX.tr ((GX.rf (q_37).1.2.1 (q_37).1.2.2.1).off rfl f_87) g_93.1
        have k9_93 : z_84 = J_37 9 (x * 3 + 2) := by rw [k_84, (q_37).1.2.2.2.1.2 _ (by omega) (by omega)]
        have gv_93 : 0 ≤ z_93 → GCj ρ J_93 m_93 (J_37 9 (x * 3 + 2)) z_93 := fun q9 => by rw [← k9_93]; exact (gc_93 q9).rr x_87.2.2
        have r_93 : ∀ S, S 164 21 = 0 → A0 J_37 S → nNO m0 J_37 → EXK (nNO m0) ((7 - lv).toNat - 1) ((fun (H : zJ) (i : Int) => grO ρ ((7 - lv).toNat - 1) H (H 167 (3 * (0 + x) + i))) S 2) z_93 J_93 := fun S h9 E9 N9 => by (try dsimp only); rw [(E9.tm (q_37).1.2.1 (q_37).1.2.2.1 (t := x) (by have := (q_37).1.1; omega)).2.2 2 (by decide) (by rw [((q_37).1.2.2.2.1.1 x hz.1 (by omega)).2.1]; omega), ← k9_93, grO_r x_87.2.2, show (7 - lv).toNat - 1 = (7 - (lv + 1)).toNat from by omega]; exact ex_93 S h9 (E9.f (fun c hc => f_87 c (by simp [zbut]; omega))) (N9.e e_87)
        refine tz_istore (pc := 96) (L2 := [_, _, _, _, _, _, _]) dX10_solvedTerm_96 (by decide) rfl ?_
        refine tz_aload_n (pc := 98) dX10_solvedTerm_98 rfl rfl ?_
        refine tz_fR (pc := 99) dX10_solvedTerm_99 fl_X10_46 r_145_0 ?_
        refine tz_aload_n (pc := 102) dX10_solvedTerm_102 rfl rfl ?_
        refine tz_fR (pc := 103) dX10_solvedTerm_103 fl_X10_46 r_145_0 ?_
        refine tz_fR (pc := 106) dX10_solvedTerm_106 fl_X10_84 r_6_1 ?_
        refine tz_aload_n (pc := 109) dX10_solvedTerm_109 rfl rfl ?_
        refine tz_iload_n (pc := 110) dX10_solvedTerm_110 rfl rfl ?_
        refine tz_cV (pc := 111) (c_uTerm hl n _ _ (by omega) (by omega)) vl_X10_68 dX10_solvedTerm_111 o_145 rfl rfl (Nat.le_of_ble_eq_true rfl) ⟨(show 0 + 1 ≤ d9 + 1 by omega), (show 8 + (2 + 11) + 40 * (0) ≤ 40 * (d9 + 1) by omega)⟩ rfl rfl (Nat.le_of_ble_eq_true rfl) (Nat.le_of_ble_eq_true rfl) (fun r9 J_111 hq9 => ?_)
        obtain ⟨z_111, rfl, hz_111, rfl, rfl⟩ := hq9
        refine tz_aL (pc := 114) (z := (tm x)) (v := (J_93 7 (tm x))) dX10_solvedTerm_114 a_7 rfl (by omega) rfl (fun r_114 => ?_)
        refine tz_iload (pc := 115) dX10_solvedTerm_115 rfl ?_
        refine tz_iload (pc := 117) dX10_solvedTerm_117 rfl ?_
        refine tz_iload (pc := 119) dX10_solvedTerm_119 rfl ?_
        have z_9 := (q_93).1.2.1.ar (t := tm x) ht.1 (by have := (q_93).1.1; omega)
        have z_8 := (q_93).1.2.1.told
        have s9 := (q_93).1.2.2.2.1.1 (tm x) ht.1 ht.2
        have m9 := (q_93).1.1
        refine tz_cV (pc := 121) (c_made hl n _ _ _ _ _ (by omega) (by omega) (by omega) (by omega) m_93 (q_93).1.2.1 (q_93).1.2.2.1 (by omega) (ltA_of (by omega) (by omega) (by omega))) vl_X10_108 dX10_solvedTerm_121 o_6 rfl rfl (Nat.le_of_ble_eq_true rfl) ⟨(show 2 + 1 ≤ d9 + 1 by omega), (show 8 + (11 + 11) + 40 * (2) ≤ 40 * (d9 + 1) by omega)⟩ rfl rfl (Nat.le_of_ble_eq_true rfl) (Nat.le_of_ble_eq_true rfl) (fun r9 J_121 hq9 => ?_)
        obtain ⟨z_121, rfl, hz_121, p_121⟩ := hq9
        obtain ⟨m_121, g_121, h_121⟩ := GR.made p_121 (by omega)
        have q_121 := UG.made q_93 g_121
        have l_121 := l_93.made (by omega) (Or.inr (fun y a c e => by have := (((q_93).2.1 y a c).2 (by rw [e])).2.2.2.1.z; exact this)) g_121
        exact tz_iret (pc := 124) (z := z_121) dX10_solvedTerm_124 rfl (Nat.le_of_ble_eq_true rfl) (Nat.le_of_ble_eq_true rfl) ⟨Nat.le_refl _, Nat.le_add_right _ _⟩ ⟨_, rfl, (by omega), ⟨m_121, q_121, h_121, l_121, fun q9 => by have w9 := gcE (X := [146, 147, 148, 149, 150, 154]) ⟨rfl, rfl⟩ C hm ⟨hz.1, (by omega)⟩ hv er (Or.inl ⟨by omega, gg_37, gv_37⟩) (Or.inr ⟨by omega, rfl, rfl⟩) (Or.inl ⟨by omega, gg_93, gv_93⟩) (by rw [tx9] at p_121; rw [show J 7 x = J_93 7 x from (((q_93).1.2.2.2.1.1 x hz.1 (by omega)).1).symm]; exact p_121) q9; rw [g_121.2.2.1] at w9; exact w9, fun S hG E N => by exact exd_w hG E C hm ⟨hz.1, (by omega)⟩ hv (by omega) er (gpD (X := [146, 147, 148, 149, 150, 154]) ⟨rfl, rfl⟩ (fun S i h => grO_f h) hG E N C hm (C.ar hz.1 (by omega)).2.2 (C.2.1 x hz.1 (by omega)).1.1.symm (Or.inl ⟨by omega, gg_37, h_37, r_37⟩) (Or.inr ⟨by omega, rfl, rfl⟩) (Or.inl ⟨by omega, gg_93, h_93, r_93⟩) (fun N9 => N9.made g_121) (by rw [tx9] at p_121; rw [show J 7 x = J_93 7 x from (((q_93).1.2.2.2.1.1 x hz.1 (by omega)).1).symm]; exact p_121))⟩⟩
      · refine tz_iconst (pc := 75) dX10_solvedTerm_75 ?_
        refine tz_goto (pc := 76) (tgt := 96) dX10_solvedTerm_76 (by decide) ?_
        refine tz_istore (pc := 96) (L2 := [_, _, _, _, _, _, _]) dX10_solvedTerm_96 (by decide) rfl ?_
        refine tz_aload_n (pc := 98) dX10_solvedTerm_98 rfl rfl ?_
        refine tz_fR (pc := 99) dX10_solvedTerm_99 fl_X10_46 r_145_0 ?_
        refine tz_aload_n (pc := 102) dX10_solvedTerm_102 rfl rfl ?_
        refine tz_fR (pc := 103) dX10_solvedTerm_103 fl_X10_46 r_145_0 ?_
        refine tz_fR (pc := 106) dX10_solvedTerm_106 fl_X10_84 r_6_1 ?_
        refine tz_aload_n (pc := 109) dX10_solvedTerm_109 rfl rfl ?_
        refine tz_iload_n (pc := 110) dX10_solvedTerm_110 rfl rfl ?_
        refine tz_cV (pc := 111) (c_uTerm hl n _ _ (by omega) (by omega)) vl_X10_68 dX10_solvedTerm_111 o_145 rfl rfl (Nat.le_of_ble_eq_true rfl) ⟨(show 0 + 1 ≤ d9 + 1 by omega), (show 8 + (2 + 11) + 40 * (0) ≤ 40 * (d9 + 1) by omega)⟩ rfl rfl (Nat.le_of_ble_eq_true rfl) (Nat.le_of_ble_eq_true rfl) (fun r9 J_111 hq9 => ?_)
        obtain ⟨z_111, rfl, hz_111, rfl, rfl⟩ := hq9
        refine tz_aL (pc := 114) (z := (tm x)) (v := (J_37 7 (tm x))) dX10_solvedTerm_114 a_7 rfl (by omega) rfl (fun r_114 => ?_)
        refine tz_iload (pc := 115) dX10_solvedTerm_115 rfl ?_
        refine tz_iload (pc := 117) dX10_solvedTerm_117 rfl ?_
        refine tz_iload (pc := 119) dX10_solvedTerm_119 rfl ?_
        have z_9 := (q_37).1.2.1.ar (t := tm x) ht.1 (by have := (q_37).1.1; omega)
        have z_8 := (q_37).1.2.1.told
        have s9 := (q_37).1.2.2.2.1.1 (tm x) ht.1 ht.2
        have m9 := (q_37).1.1
        refine tz_cV (pc := 121) (c_made hl n _ _ _ _ _ (by omega) (by omega) (by omega) (by omega) m_37 (q_37).1.2.1 (q_37).1.2.2.1 (by omega) (ltA_of (by omega) (by omega) (by omega))) vl_X10_108 dX10_solvedTerm_121 o_6 rfl rfl (Nat.le_of_ble_eq_true rfl) ⟨(show 2 + 1 ≤ d9 + 1 by omega), (show 8 + (11 + 11) + 40 * (2) ≤ 40 * (d9 + 1) by omega)⟩ rfl rfl (Nat.le_of_ble_eq_true rfl) (Nat.le_of_ble_eq_true rfl) (fun r9 J_121 hq9 => ?_)
        obtain ⟨z_121, rfl, hz_121, p_121⟩ := hq9
        obtain ⟨m_121, g_121, h_121⟩ := GR.made p_121 (by omega)
        have q_121 := UG.made q_37 g_121
        have l_121 := l_37.made (by omega) (Or.inr (fun y a c e => by have := (((q_37).2.1 y a c).2 (by rw [e])).2.2.2.1.z; exact this)) g_121
        exact tz_iret (pc := 124) (z := z_121) dX10_solvedTerm_124 rfl (Nat.le_of_ble_eq_true rfl) (Nat.le_of_ble_eq_true rfl) ⟨Nat.le_refl _, Nat.le_add_right _ _⟩ ⟨_, rfl, (by omega), ⟨m_121, q_121, h_121, l_121, fun q9 => by have w9 := gcE (X := [146, 147, 148, 149, 150, 154]) ⟨rfl, rfl⟩ C hm ⟨hz.1, (by omega)⟩ hv er (Or.inl ⟨by omega, gg_37, gv_37⟩) (Or.inr ⟨by omega, rfl, rfl⟩) (Or.inr ⟨by omega, rfl, rfl⟩) (by rw [tx9] at p_121; rw [show J 7 x = J_37 7 x from (((q_37).1.2.2.2.1.1 x hz.1 (by omega)).1).symm]; exact p_121) q9; rw [g_121.2.2.1] at w9; exact w9, fun S hG E N => by exact exd_w hG E C hm ⟨hz.1, (by omega)⟩ hv (by omega) er (gpD (X := [146, 147, 148, 149, 150, 154]) ⟨rfl, rfl⟩ (fun S i h => grO_f h) hG E N C hm (C.ar hz.1 (by omega)).2.2 (C.2.1 x hz.1 (by omega)).1.1.symm (Or.inl ⟨by omega, gg_37, h_37, r_37⟩) (Or.inr ⟨by omega, rfl, rfl⟩) (Or.inr ⟨by omega, rfl, rfl⟩) (fun N9 => N9.made g_121) (by rw [tx9] at p_121; rw [show J 7 x = J_37 7 x from (((q_37).1.2.2.2.1.1 x hz.1 (by omega)).1).symm]; exact p_121))⟩⟩
  · refine tz_iconst (pc := 19) dX10_solvedTerm_19 ?_
    refine tz_goto (pc := 20) (tgt := 40) dX10_solvedTerm_20 (by decide) ?_
    refine tz_istore (pc := 40) (L2 := [_, _, _, _, _, _, _]) dX10_solvedTerm_40 (by decide) rfl ?_
    refine tz_iload_n (pc := 42) dX10_solvedTerm_42 rfl rfl ?_
    refine tz_iconst (pc := 43) dX10_solvedTerm_43 ?_
    refine tz_icmp_ge (pc := 44) (tgt := 51) dX10_solvedTerm_44 (by decide) (by omega) (by decide) (fun h_44 => ?_) (fun h_44 => ?_)
    · refine tz_aload_n (pc := 51) dX10_solvedTerm_51 rfl rfl ?_
      refine tz_aload_n (pc := 52) dX10_solvedTerm_52 rfl rfl ?_
      refine tz_aload_n (pc := 53) dX10_solvedTerm_53 rfl rfl ?_
      refine tz_iload_n (pc := 54) dX10_solvedTerm_54 rfl rfl ?_
      refine tz_iconst (pc := 55) dX10_solvedTerm_55 ?_
      have s_56 := ((UG.rf C hm hU)).1.2.2.2.1.1 (tm x) ht.1 ht.2
      have c_56 := ((UG.rf C hm hU)).1.1
      refine tz_cV (pc := 56) (u_part hl n _ _ _ (by omega) (by omega) 0 m ((UG.rf C hm hU)).1.2.1 (Or.inl (by omega)) (by rw [s_56.2.1]; omega)) vl_X10_93 dX10_solvedTerm_56 o_145 rfl rfl (Nat.le_of_ble_eq_true rfl) ⟨(show 1 + 1 ≤ d9 + 1 by omega), (show 8 + (3 + 11) + 40 * (1) ≤ 40 * (d9 + 1) by omega)⟩ rfl rfl (Nat.le_of_ble_eq_true rfl) (Nat.le_of_ble_eq_true rfl) (fun r9 J_56 hq9 => ?_)
      obtain ⟨z_56, rfl, hz_56, rfl, n_56, p_56⟩ := hq9
      have k_56 : z_56 = J 9 (x * 3 + 1) := by rw [← p_56, tx9, sx9, ((UG.rf C hm hU)).1.2.2.2.1.2 _ (by omega) (by omega)]; omega
      have a_56 := C.arg hz.1 (show x < m by omega) (i := 1) (by omega) (by omega)
      have v_56 : VN 400 m0 z_56 := by rw [k_56]; exact ⟨by omega, by omega⟩
      have b_59 := ((UG.rf C hm hU)).1.2.1.told
      have r_59 := n_56.rg b_59.2
      refine tz_cV (pc := 59) (u_topM hl n _ _ (by omega) 0 m 400 m0 b_59.2 n_56 ((UG.rf C hm hU)).2.1 hV.1 (Or.inl rfl) v_56) vl_X10_54 dX10_solvedTerm_59 o_145 rfl rfl (Nat.le_of_ble_eq_true rfl) ⟨(show 2 + 1 ≤ d9 + 1 by omega), (show 8 + (4 + 11) + 40 * (2) ≤ 40 * (d9 + 1) by omega)⟩ rfl rfl (Nat.le_of_ble_eq_true rfl) (Nat.le_of_ble_eq_true rfl) (fun r9 J_59 hq9 => ?_)
      obtain ⟨z_59, rfl, hz_59, ⟨u_59, ⟨v_59, w_59⟩, f_59⟩, e_59, t_59⟩ := hq9
      have q_59 := UG.top (UG.rf C hm hU) u_59 f_59
      have y_59 := v_59.z
      have l_59 := hV.e e_59 (fun q hq => f_59 q (by simp [zbut]; omega))
      have o_59 : z_59 = T z_56 := by rw [t_59, (hV.2.1 _ v_56).1]
      have x_59 := hC.1 _ v_56
      rw [← o_59] at x_59
      refine tz_iload_n (pc := 62) dX10_solvedTerm_62 rfl rfl ?_
      refine tz_iconst (pc := 63) dX10_solvedTerm_63 ?_
      refine tz_iadd (pc := 64) (v := lv + 1) dX10_solvedTerm_64 rfl ?_
      refine tz_cV (pc := 65) (H _ _ (by omega) m (q_59).1.2.1 (q_59).1.2.2.1 (q_59).2.1 (by have := (q_59).1.1; omega) x_59.1 l_59 (hC.gj (m' := m) hm0 (q_59).1.2.2.2.1) (by rw [w_59, u_59.2.1]) x_59.2.1) vl_X10_102 dX10_solvedTerm_65 o_145 rfl rfl (Nat.le_of_ble_eq_true rfl) ⟨(show d9 + 1 ≤ d9 + 1 by omega), (show 8 + (4 + 11) + 40 * (d9) ≤ 40 * (d9 + 1) by omega)⟩ rfl rfl (Nat.le_of_ble_eq_true rfl) (Nat.le_of_ble_eq_true rfl) (fun r9 J_65 hq9 => ?_)
      obtain ⟨z_65, rfl, hz_65, m_65, g_65, h_65, l_65, gc_65, ex_65⟩ := hq9
      have q_65 := UG.tr q_59 g_65
      have d_65 := q_65.1.1
      have e_65 := g_65.1.1
      have gg_65 : GX [146, 147, 148, 149, 150, 154] J_65 J m m_65 := GX.tr ((GX.rf ((UG.rf C hm hU)).1.2.1 ((UG.rf C hm hU)).1.2.2.1).off rfl f_59) g_65.1
      have k9_65 : z_56 = J 9 (x * 3 + 1) := by rw [k_56, ((UG.rf C hm hU)).1.2.2.2.1.2 _ (by omega) (by omega)]
      have gv_65 : 0 ≤ z_65 → GCj ρ J_65 m_65 (J 9 (x * 3 + 1)) z_65 := fun q9 => by rw [← k9_65]; exact (gc_65 q9).rr x_59.2.2
      have r_65 : ∀ S, S 164 21 = 0 → A0 J S → nNO m0 J → EXK (nNO m0) ((7 - lv).toNat - 1) ((fun (H : zJ) (i : Int) => grO ρ ((7 - lv).toNat - 1) H (H 167 (3 * (0 + x) + i))) S 1) z_65 J_65 := fun S h9 E9 N9 => by (try dsimp only); rw [(E9.tm ((UG.rf C hm hU)).1.2.1 ((UG.rf C hm hU)).1.2.2.1 (t := x) (by have := ((UG.rf C hm hU)).1.1; omega)).2.2 1 (by decide) (by rw [(((UG.rf C hm hU)).1.2.2.2.1.1 x hz.1 (by omega)).2.1]; omega), ← k9_65, grO_r x_59.2.2, show (7 - lv).toNat - 1 = (7 - (lv + 1)).toNat from by omega]; exact ex_65 S h9 (E9.f (fun c hc => f_59 c (by simp [zbut]; omega))) (N9.e e_59)
      refine tz_istore (pc := 68) (L2 := [_, _, _, _, _, _, _]) dX10_solvedTerm_68 (by decide) rfl ?_
      refine tz_iload_n (pc := 70) dX10_solvedTerm_70 rfl rfl ?_
      refine tz_iconst (pc := 71) dX10_solvedTerm_71 ?_
      refine tz_icmp_ge (pc := 72) (tgt := 79) dX10_solvedTerm_72 (by decide) (by omega) (by decide) (fun h_72 => ?_) (fun h_72 => ?_)
      · refine tz_aload_n (pc := 79) dX10_solvedTerm_79 rfl rfl ?_
        refine tz_aload_n (pc := 80) dX10_solvedTerm_80 rfl rfl ?_
        refine tz_aload_n (pc := 81) dX10_solvedTerm_81 rfl rfl ?_
        refine tz_iload_n (pc := 82) dX10_solvedTerm_82 rfl rfl ?_
        refine tz_iconst (pc := 83) dX10_solvedTerm_83 ?_
        have s_84 := (q_65).1.2.2.2.1.1 (tm x) ht.1 ht.2
        have c_84 := (q_65).1.1
        refine tz_cV (pc := 84) (u_part hl n _ _ _ (by omega) (by omega) 0 m_65 (q_65).1.2.1 (Or.inl (by omega)) (by rw [s_84.2.1]; omega)) vl_X10_93 dX10_solvedTerm_84 o_145 rfl rfl (Nat.le_of_ble_eq_true rfl) ⟨(show 1 + 1 ≤ d9 + 1 by omega), (show 8 + (3 + 11) + 40 * (1) ≤ 40 * (d9 + 1) by omega)⟩ rfl rfl (Nat.le_of_ble_eq_true rfl) (Nat.le_of_ble_eq_true rfl) (fun r9 J_84 hq9 => ?_)
        obtain ⟨z_84, rfl, hz_84, rfl, n_84, p_84⟩ := hq9
        have k_84 : z_84 = J 9 (x * 3 + 2) := by rw [← p_84, tx9, sx9, (q_65).1.2.2.2.1.2 _ (by omega) (by omega)]; omega
        have a_84 := C.arg hz.1 (show x < m by omega) (i := 2) (by omega) (by omega)
        have v_84 : VN 400 m0 z_84 := by rw [k_84]; exact ⟨by omega, by omega⟩
        have b_87 := (q_65).1.2.1.told
        have r_87 := n_84.rg b_87.2
        refine tz_cV (pc := 87) (u_topM hl n _ _ (by omega) 0 m_65 400 m0 b_87.2 n_84 (q_65).2.1 l_65.1 (Or.inl rfl) v_84) vl_X10_54 dX10_solvedTerm_87 o_145 rfl rfl (Nat.le_of_ble_eq_true rfl) ⟨(show 2 + 1 ≤ d9 + 1 by omega), (show 8 + (4 + 11) + 40 * (2) ≤ 40 * (d9 + 1) by omega)⟩ rfl rfl (Nat.le_of_ble_eq_true rfl) (Nat.le_of_ble_eq_true rfl) (fun r9 J_87 hq9 => ?_)
        obtain ⟨z_87, rfl, hz_87, ⟨u_87, ⟨v_87, w_87⟩, f_87⟩, e_87, t_87⟩ := hq9
        have q_87 := UG.top q_65 u_87 f_87
        have y_87 := v_87.z
        have l_87 := l_65.e e_87 (fun q hq => f_87 q (by simp [zbut]; omega))
        have o_87 : z_87 = T z_84 := by rw [t_87, (l_65.2.1 _ v_84).1]
        have x_87 := hC.1 _ v_84
        rw [← o_87] at x_87
        refine tz_iload_n (pc := 90) dX10_solvedTerm_90 rfl rfl ?_
        refine tz_iconst (pc := 91) dX10_solvedTerm_91 ?_
        refine tz_iadd (pc := 92) (v := lv + 1) dX10_solvedTerm_92 rfl ?_
        refine tz_cV (pc := 93) (H _ _ (by omega) m_65 (q_87).1.2.1 (q_87).1.2.2.1 (q_87).2.1 (by have := (q_87).1.1; omega) x_87.1 l_87 (hC.gj (m' := m) hm0 (q_87).1.2.2.2.1) (by rw [w_87, u_87.2.1]) x_87.2.1) vl_X10_102 dX10_solvedTerm_93 o_145 rfl rfl (Nat.le_of_ble_eq_true rfl) ⟨(show d9 + 1 ≤ d9 + 1 by omega), (show 8 + (4 + 11) + 40 * (d9) ≤ 40 * (d9 + 1) by omega)⟩ rfl rfl (Nat.le_of_ble_eq_true rfl) (Nat.le_of_ble_eq_true rfl) (fun r9 J_93 hq9 => ?_)
        obtain ⟨z_93, rfl, hz_93, m_93, g_93, h_93, l_93, gc_93, ex_93⟩ := hq9
        have q_93 := UG.tr q_87 g_93
        have d_93 := q_93.1.1
        have e_93 := g_93.1.1
        have gg_93 : GX [146, 147, 148, 149, 150, 154] J_93 J_65 m_65 m_93 := GX.tr ((GX.rf (q_65).1.2.1 (q_65).1.2.2.1).off rfl f_87) g_93.1
        have k9_93 : z_84 = J_65 9 (x * 3 + 2) := by rw [k_84, (q_65).1.2.2.2.1.2 _ (by omega) (by omega)]
        have gv_93 : 0 ≤ z_93 → GCj ρ J_93 m_93 (J_65 9 (x * 3 + 2)) z_93 := fun q9 => by rw [← k9_93]; exact (gc_93 q9).rr x_87.2.2
        have r_93 : ∀ S, S 164 21 = 0 → A0 J_65 S → nNO m0 J_65 → EXK (nNO m0) ((7 - lv).toNat - 1) ((fun (H : zJ) (i : Int) => grO ρ ((7 - lv).toNat - 1) H (H 167 (3 * (0 + x) + i))) S 2) z_93 J_93 := fun S h9 E9 N9 => by (try dsimp only); rw [(E9.tm (q_65).1.2.1 (q_65).1.2.2.1 (t := x) (by have := (q_65).1.1; omega)).2.2 2 (by decide) (by rw [((q_65).1.2.2.2.1.1 x hz.1 (by omega)).2.1]; omega), ← k9_93, grO_r x_87.2.2, show (7 - lv).toNat - 1 = (7 - (lv + 1)).toNat from by omega]; exact ex_93 S h9 (E9.f (fun c hc => f_87 c (by simp [zbut]; omega))) (N9.e e_87)
        refine tz_istore (pc := 96) (L2 := [_, _, _, _, _, _, _]) dX10_solvedTerm_96 (by decide) rfl ?_
        refine tz_aload_n (pc := 98) dX10_solvedTerm_98 rfl rfl ?_
        refine tz_fR (pc := 99) dX10_solvedTerm_99 fl_X10_46 r_145_0 ?_
        refine tz_aload_n (pc := 102) dX10_solvedTerm_102 rfl rfl ?_
        refine tz_fR (pc := 103) dX10_solvedTerm_103 fl_X10_46 r_145_0 ?_
        refine tz_fR (pc := 106) dX10_solvedTerm_106 fl_X10_84 r_6_1 ?_
        refine tz_aload_n (pc := 109) dX10_solvedTerm_109 rfl rfl ?_
        refine tz_iload_n (pc := 110) dX10_solvedTerm_110 rfl rfl ?_
        refine tz_cV (pc := 111) (c_uTerm hl n _ _ (by omega) (by omega)) vl_X10_68 dX10_solvedTerm_111 o_145 rfl rfl (Nat.le_of_ble_eq_true rfl) ⟨(show 0 + 1 ≤ d9 + 1 by omega), (show 8 + (2 + 11) + 40 * (0) ≤ 40 * (d9 + 1) by omega)⟩ rfl rfl (Nat.le_of_ble_eq_true rfl) (Nat.le_of_ble_eq_true rfl) (fun r9 J_111 hq9 => ?_)
        obtain ⟨z_111, rfl, hz_111, rfl, rfl⟩ := hq9
        refine tz_aL (pc := 114) (z := (tm x)) (v := (J_93 7 (tm x))) dX10_solvedTerm_114 a_7 rfl (by omega) rfl (fun r_114 => ?_)
        refine tz_iload (pc := 115) dX10_solvedTerm_115 rfl ?_
        refine tz_iload (pc := 117) dX10_solvedTerm_117 rfl ?_
        refine tz_iload (pc := 119) dX10_solvedTerm_119 rfl ?_
        have z_9 := (q_93).1.2.1.ar (t := tm x) ht.1 (by have := (q_93).1.1; omega)
        have z_8 := (q_93).1.2.1.told
        have s9 := (q_93).1.2.2.2.1.1 (tm x) ht.1 ht.2
        have m9 := (q_93).1.1
        refine tz_cV (pc := 121) (c_made hl n _ _ _ _ _ (by omega) (by omega) (by omega) (by omega) m_93 (q_93).1.2.1 (q_93).1.2.2.1 (by omega) (ltA_of (by omega) (by omega) (by omega))) vl_X10_108 dX10_solvedTerm_121 o_6 rfl rfl (Nat.le_of_ble_eq_true rfl) ⟨(show 2 + 1 ≤ d9 + 1 by omega), (show 8 + (11 + 11) + 40 * (2) ≤ 40 * (d9 + 1) by omega)⟩ rfl rfl (Nat.le_of_ble_eq_true rfl) (Nat.le_of_ble_eq_true rfl) (fun r9 J_121 hq9 => ?_)
        obtain ⟨z_121, rfl, hz_121, p_121⟩ := hq9
        obtain ⟨m_121, g_121, h_121⟩ := GR.made p_121 (by omega)
        have q_121 := UG.made q_93 g_121
        have l_121 := l_93.made (by omega) (Or.inr (fun y a c e => by have := (((q_93).2.1 y a c).2 (by rw [e])).2.2.2.1.z; exact this)) g_121
        exact tz_iret (pc := 124) (z := z_121) dX10_solvedTerm_124 rfl (Nat.le_of_ble_eq_true rfl) (Nat.le_of_ble_eq_true rfl) ⟨Nat.le_refl _, Nat.le_add_right _ _⟩ ⟨_, rfl, (by omega), ⟨m_121, q_121, h_121, l_121, fun q9 => by have w9 := gcE (X := [146, 147, 148, 149, 150, 154]) ⟨rfl, rfl⟩ C hm ⟨hz.1, (by omega)⟩ hv er (Or.inr ⟨by omega, rfl, rfl⟩) (Or.inl ⟨by omega, gg_65, gv_65⟩) (Or.inl ⟨by omega, gg_93, gv_93⟩) (by rw [tx9] at p_121; rw [show J 7 x = J_93 7 x from (((q_93).1.2.2.2.1.1 x hz.1 (by omega)).1).symm]; exact p_121) q9; rw [g_121.2.2.1] at w9; exact w9, fun S hG E N => by exact exd_w hG E C hm ⟨hz.1, (by omega)⟩ hv (by omega) er (gpD (X := [146, 147, 148, 149, 150, 154]) ⟨rfl, rfl⟩ (fun S i h => grO_f h) hG E N C hm (C.ar hz.1 (by omega)).2.2 (C.2.1 x hz.1 (by omega)).1.1.symm (Or.inr ⟨by omega, rfl, rfl⟩) (Or.inl ⟨by omega, gg_65, h_65, r_65⟩) (Or.inl ⟨by omega, gg_93, h_93, r_93⟩) (fun N9 => N9.made g_121) (by rw [tx9] at p_121; rw [show J 7 x = J_93 7 x from (((q_93).1.2.2.2.1.1 x hz.1 (by omega)).1).symm]; exact p_121))⟩⟩
      · refine tz_iconst (pc := 75) dX10_solvedTerm_75 ?_
        refine tz_goto (pc := 76) (tgt := 96) dX10_solvedTerm_76 (by decide) ?_
        refine tz_istore (pc := 96) (L2 := [_, _, _, _, _, _, _]) dX10_solvedTerm_96 (by decide) rfl ?_
        refine tz_aload_n (pc := 98) dX10_solvedTerm_98 rfl rfl ?_
        refine tz_fR (pc := 99) dX10_solvedTerm_99 fl_X10_46 r_145_0 ?_
        refine tz_aload_n (pc := 102) dX10_solvedTerm_102 rfl rfl ?_
        refine tz_fR (pc := 103) dX10_solvedTerm_103 fl_X10_46 r_145_0 ?_
        refine tz_fR (pc := 106) dX10_solvedTerm_106 fl_X10_84 r_6_1 ?_
        refine tz_aload_n (pc := 109) dX10_solvedTerm_109 rfl rfl ?_
        refine tz_iload_n (pc := 110) dX10_solvedTerm_110 rfl rfl ?_
        refine tz_cV (pc := 111) (c_uTerm hl n _ _ (by omega) (by omega)) vl_X10_68 dX10_solvedTerm_111 o_145 rfl rfl (Nat.le_of_ble_eq_true rfl) ⟨(show 0 + 1 ≤ d9 + 1 by omega), (show 8 + (2 + 11) + 40 * (0) ≤ 40 * (d9 + 1) by omega)⟩ rfl rfl (Nat.le_of_ble_eq_true rfl) (Nat.le_of_ble_eq_true rfl) (fun r9 J_111 hq9 => ?_)
        obtain ⟨z_111, rfl, hz_111, rfl, rfl⟩ := hq9
        refine tz_aL (pc := 114) (z := (tm x)) (v := (J_65 7 (tm x))) dX10_solvedTerm_114 a_7 rfl (by omega) rfl (fun r_114 => ?_)
        refine tz_iload (pc := 115) dX10_solvedTerm_115 rfl ?_
        refine tz_iload (pc := 117) dX10_solvedTerm_117 rfl ?_
        refine tz_iload (pc := 119) dX10_solvedTerm_119 rfl ?_
        have z_9 := (q_65).1.2.1.ar (t := tm x) ht.1 (by have := (q_65).1.1; omega)
        have z_8 := (q_65).1.2.1.told
        have s9 := (q_65).1.2.2.2.1.1 (tm x) ht.1 ht.2
        have m9 := (q_65).1.1
        refine tz_cV (pc := 121) (c_made hl n _ _ _ _ _ (by omega) (by omega) (by omega) (by omega) m_65 (q_65).1.2.1 (q_65).1.2.2.1 (by omega) (ltA_of (by omega) (by omega) (by omega))) vl_X10_108 dX10_solvedTerm_121 o_6 rfl rfl (Nat.le_of_ble_eq_true rfl) ⟨(show 2 + 1 ≤ d9 + 1 by omega), (show 8 + (11 + 11) + 40 * (2) ≤ 40 * (d9 + 1) by omega)⟩ rfl rfl (Nat.le_of_ble_eq_true rfl) (Nat.le_of_ble_eq_true rfl) (fun r9 J_121 hq9 => ?_)
        obtain ⟨z_121, rfl, hz_121, p_121⟩ := hq9
        obtain ⟨m_121, g_121, h_121⟩ := GR.made p_121 (by omega)
        have q_121 := UG.made q_65 g_121
        have l_121 := l_65.made (by omega) (Or.inr (fun y a c e => by have := (((q_65).2.1 y a c).2 (by rw [e])).2.2.2.1.z; exact this)) g_121
        exact tz_iret (pc := 124) (z := z_121) dX10_solvedTerm_124 rfl (Nat.le_of_ble_eq_true rfl) (Nat.le_of_ble_eq_true rfl) ⟨Nat.le_refl _, Nat.le_add_right _ _⟩ ⟨_, rfl, (by omega), ⟨m_121, q_121, h_121, l_121, fun q9 => by have w9 := gcE (X := [146, 147, 148, 149, 150, 154]) ⟨rfl, rfl⟩ C hm ⟨hz.1, (by omega)⟩ hv er (Or.inr ⟨by omega, rfl, rfl⟩) (Or.inl ⟨by omega, gg_65, gv_65⟩) (Or.inr ⟨by omega, rfl, rfl⟩) (by rw [tx9] at p_121; rw [show J 7 x = J_65 7 x from (((q_65).1.2.2.2.1.1 x hz.1 (by omega)).1).symm]; exact p_121) q9; rw [g_121.2.2.1] at w9; exact w9, fun S hG E N => by exact exd_w hG E C hm ⟨hz.1, (by omega)⟩ hv (by omega) er (gpD (X := [146, 147, 148, 149, 150, 154]) ⟨rfl, rfl⟩ (fun S i h => grO_f h) hG E N C hm (C.ar hz.1 (by omega)).2.2 (C.2.1 x hz.1 (by omega)).1.1.symm (Or.inr ⟨by omega, rfl, rfl⟩) (Or.inl ⟨by omega, gg_65, h_65, r_65⟩) (Or.inr ⟨by omega, rfl, rfl⟩) (fun N9 => N9.made g_121) (by rw [tx9] at p_121; rw [show J 7 x = J_65 7 x from (((q_65).1.2.2.2.1.1 x hz.1 (by omega)).1).symm]; exact p_121))⟩⟩
    · refine tz_iconst (pc := 47) dX10_solvedTerm_47 ?_
      refine tz_goto (pc := 48) (tgt := 68) dX10_solvedTerm_48 (by decide) ?_
      refine tz_istore (pc := 68) (L2 := [_, _, _, _, _, _, _]) dX10_solvedTerm_68 (by decide) rfl ?_
      refine tz_iload_n (pc := 70) dX10_solvedTerm_70 rfl rfl ?_
      refine tz_iconst (pc := 71) dX10_solvedTerm_71 ?_
      refine tz_icmp_ge (pc := 72) (tgt := 79) dX10_solvedTerm_72 (by decide) (by omega) (by decide) (fun h_72 => ?_) (fun h_72 => ?_)
      · refine tz_aload_n (pc := 79) dX10_solvedTerm_79 rfl rfl ?_
        refine tz_aload_n (pc := 80) dX10_solvedTerm_80 rfl rfl ?_
        refine tz_aload_n (pc := 81) dX10_solvedTerm_81 rfl rfl ?_
        refine tz_iload_n (pc := 82) dX10_solvedTerm_82 rfl rfl ?_
        refine tz_iconst (pc := 83) dX10_solvedTerm_83 ?_
        have s_84 := ((UG.rf C hm hU)).1.2.2.2.1.1 (tm x) ht.1 ht.2
        have c_84 := ((UG.rf C hm hU)).1.1
        refine tz_cV (pc := 84) (u_part hl n _ _ _ (by omega) (by omega) 0 m ((UG.rf C hm hU)).1.2.1 (Or.inl (by omega)) (by rw [s_84.2.1]; omega)) vl_X10_93 dX10_solvedTerm_84 o_145 rfl rfl (Nat.le_of_ble_eq_true rfl) ⟨(show 1 + 1 ≤ d9 + 1 by omega), (show 8 + (3 + 11) + 40 * (1) ≤ 40 * (d9 + 1) by omega)⟩ rfl rfl (Nat.le_of_ble_eq_true rfl) (Nat.le_of_ble_eq_true rfl) (fun r9 J_84 hq9 => ?_)
        obtain ⟨z_84, rfl, hz_84, rfl, n_84, p_84⟩ := hq9
        have k_84 : z_84 = J 9 (x * 3 + 2) := by rw [← p_84, tx9, sx9, ((UG.rf C hm hU)).1.2.2.2.1.2 _ (by omega) (by omega)]; omega
        have a_84 := C.arg hz.1 (show x < m by omega) (i := 2) (by omega) (by omega)
        have v_84 : VN 400 m0 z_84 := by rw [k_84]; exact ⟨by omega, by omega⟩
        have b_87 := ((UG.rf C hm hU)).1.2.1.told
        have r_87 := n_84.rg b_87.2
        refine tz_cV (pc := 87) (u_topM hl n _ _ (by omega) 0 m 400 m0 b_87.2 n_84 ((UG.rf C hm hU)).2.1 hV.1 (Or.inl rfl) v_84) vl_X10_54 dX10_solvedTerm_87 o_145 rfl rfl (Nat.le_of_ble_eq_true rfl) ⟨(show 2 + 1 ≤ d9 + 1 by omega), (show 8 + (4 + 11) + 40 * (2) ≤ 40 * (d9 + 1) by omega)⟩ rfl rfl (Nat.le_of_ble_eq_true rfl) (Nat.le_of_ble_eq_true rfl) (fun r9 J_87 hq9 => ?_)
        obtain ⟨z_87, rfl, hz_87, ⟨u_87, ⟨v_87, w_87⟩, f_87⟩, e_87, t_87⟩ := hq9
        have q_87 := UG.top (UG.rf C hm hU) u_87 f_87
        have y_87 := v_87.z
        have l_87 := hV.e e_87 (fun q hq => f_87 q (by simp [zbut]; omega))
        have o_87 : z_87 = T z_84 := by rw [t_87, (hV.2.1 _ v_84).1]
        have x_87 := hC.1 _ v_84
        rw [← o_87] at x_87
        refine tz_iload_n (pc := 90) dX10_solvedTerm_90 rfl rfl ?_
        refine tz_iconst (pc := 91) dX10_solvedTerm_91 ?_
        refine tz_iadd (pc := 92) (v := lv + 1) dX10_solvedTerm_92 rfl ?_
        refine tz_cV (pc := 93) (H _ _ (by omega) m (q_87).1.2.1 (q_87).1.2.2.1 (q_87).2.1 (by have := (q_87).1.1; omega) x_87.1 l_87 (hC.gj (m' := m) hm0 (q_87).1.2.2.2.1) (by rw [w_87, u_87.2.1]) x_87.2.1) vl_X10_102 dX10_solvedTerm_93 o_145 rfl rfl (Nat.le_of_ble_eq_true rfl) ⟨(show d9 + 1 ≤ d9 + 1 by omega), (show 8 + (4 + 11) + 40 * (d9) ≤ 40 * (d9 + 1) by omega)⟩ rfl rfl (Nat.le_of_ble_eq_true rfl) (Nat.le_of_ble_eq_true rfl) (fun r9 J_93 hq9 => ?_)
        obtain ⟨z_93, rfl, hz_93, m_93, g_93, h_93, l_93, gc_93, ex_93⟩ := hq9
        have q_93 := UG.tr q_87 g_93
        have d_93 := q_93.1.1
        have e_93 := g_93.1.1
        have gg_93 : GX [146, 147, 148, 149, 150, 154] J_93 J m m_93 := GX.tr ((GX.rf ((UG.rf C hm hU)).1.2.1 ((UG.rf C hm hU)).1.2.2.1).off rfl f_87) g_93.1
        have k9_93 : z_84 = J 9 (x * 3 + 2) := by rw [k_84, ((UG.rf C hm hU)).1.2.2.2.1.2 _ (by omega) (by omega)]
        have gv_93 : 0 ≤ z_93 → GCj ρ J_93 m_93 (J 9 (x * 3 + 2)) z_93 := fun q9 => by rw [← k9_93]; exact (gc_93 q9).rr x_87.2.2
        have r_93 : ∀ S, S 164 21 = 0 → A0 J S → nNO m0 J → EXK (nNO m0) ((7 - lv).toNat - 1) ((fun (H : zJ) (i : Int) => grO ρ ((7 - lv).toNat - 1) H (H 167 (3 * (0 + x) + i))) S 2) z_93 J_93 := fun S h9 E9 N9 => by (try dsimp only); rw [(E9.tm ((UG.rf C hm hU)).1.2.1 ((UG.rf C hm hU)).1.2.2.1 (t := x) (by have := ((UG.rf C hm hU)).1.1; omega)).2.2 2 (by decide) (by rw [(((UG.rf C hm hU)).1.2.2.2.1.1 x hz.1 (by omega)).2.1]; omega), ← k9_93, grO_r x_87.2.2, show (7 - lv).toNat - 1 = (7 - (lv + 1)).toNat from by omega]; exact ex_93 S h9 (E9.f (fun c hc => f_87 c (by simp [zbut]; omega))) (N9.e e_87)
        refine tz_istore (pc := 96) (L2 := [_, _, _, _, _, _, _]) dX10_solvedTerm_96 (by decide) rfl ?_
        refine tz_aload_n (pc := 98) dX10_solvedTerm_98 rfl rfl ?_
        refine tz_fR (pc := 99) dX10_solvedTerm_99 fl_X10_46 r_145_0 ?_
        refine tz_aload_n (pc := 102) dX10_solvedTerm_102 rfl rfl ?_
        refine tz_fR (pc := 103) dX10_solvedTerm_103 fl_X10_46 r_145_0 ?_
        refine tz_fR (pc := 106) dX10_solvedTerm_106 fl_X10_84 r_6_1 ?_
        refine tz_aload_n (pc := 109) dX10_solvedTerm_109 rfl rfl ?_
        refine tz_iload_n (pc := 110) dX10_solvedTerm_110 rfl rfl ?_
        refine tz_cV (pc := 111) (c_uTerm hl n _ _ (by omega) (by omega)) vl_X10_68 dX10_solvedTerm_111 o_145 rfl rfl (Nat.le_of_ble_eq_true rfl) ⟨(show 0 + 1 ≤ d9 + 1 by omega), (show 8 + (2 + 11) + 40 * (0) ≤ 40 * (d9 + 1) by omega)⟩ rfl rfl (Nat.le_of_ble_eq_true rfl) (Nat.le_of_ble_eq_true rfl) (fun r9 J_111 hq9 => ?_)
        obtain ⟨z_111, rfl, hz_111, rfl, rfl⟩ := hq9
        refine tz_aL (pc := 114) (z := (tm x)) (v := (J_93 7 (tm x))) dX10_solvedTerm_114 a_7 rfl (by omega) rfl (fun r_114 => ?_)
        refine tz_iload (pc := 115) dX10_solvedTerm_115 rfl ?_
        refine tz_iload (pc := 117) dX10_solvedTerm_117 rfl ?_
        refine tz_iload (pc := 119) dX10_solvedTerm_119 rfl ?_
        have z_9 := (q_93).1.2.1.ar (t := tm x) ht.1 (by have := (q_93).1.1; omega)
        have z_8 := (q_93).1.2.1.told
        have s9 := (q_93).1.2.2.2.1.1 (tm x) ht.1 ht.2
        have m9 := (q_93).1.1
        refine tz_cV (pc := 121) (c_made hl n _ _ _ _ _ (by omega) (by omega) (by omega) (by omega) m_93 (q_93).1.2.1 (q_93).1.2.2.1 (by omega) (ltA_of (by omega) (by omega) (by omega))) vl_X10_108 dX10_solvedTerm_121 o_6 rfl rfl (Nat.le_of_ble_eq_true rfl) ⟨(show 2 + 1 ≤ d9 + 1 by omega), (show 8 + (11 + 11) + 40 * (2) ≤ 40 * (d9 + 1) by omega)⟩ rfl rfl (Nat.le_of_ble_eq_true rfl) (Nat.le_of_ble_eq_true rfl) (fun r9 J_121 hq9 => ?_)
        obtain ⟨z_121, rfl, hz_121, p_121⟩ := hq9
        obtain ⟨m_121, g_121, h_121⟩ := GR.made p_121 (by omega)
        have q_121 := UG.made q_93 g_121
        have l_121 := l_93.made (by omega) (Or.inr (fun y a c e => by have := (((q_93).2.1 y a c).2 (by rw [e])).2.2.2.1.z; exact this)) g_121
        exact tz_iret (pc := 124) (z := z_121) dX10_solvedTerm_124 rfl (Nat.le_of_ble_eq_true rfl) (Nat.le_of_ble_eq_true rfl) ⟨Nat.le_refl _, Nat.le_add_right _ _⟩ ⟨_, rfl, (by omega), ⟨m_121, q_121, h_121, l_121, fun q9 => by have w9 := gcE (X := [146, 147, 148, 149, 150, 154]) ⟨rfl, rfl⟩ C hm ⟨hz.1, (by omega)⟩ hv er (Or.inr ⟨by omega, rfl, rfl⟩) (Or.inr ⟨by omega, rfl, rfl⟩) (Or.inl ⟨by omega, gg_93, gv_93⟩) (by rw [tx9] at p_121; rw [show J 7 x = J_93 7 x from (((q_93).1.2.2.2.1.1 x hz.1 (by omega)).1).symm]; exact p_121) q9; rw [g_121.2.2.1] at w9; exact w9, fun S hG E N => by exact exd_w hG E C hm ⟨hz.1, (by omega)⟩ hv (by omega) er (gpD (X := [146, 147, 148, 149, 150, 154]) ⟨rfl, rfl⟩ (fun S i h => grO_f h) hG E N C hm (C.ar hz.1 (by omega)).2.2 (C.2.1 x hz.1 (by omega)).1.1.symm (Or.inr ⟨by omega, rfl, rfl⟩) (Or.inr ⟨by omega, rfl, rfl⟩) (Or.inl ⟨by omega, gg_93, h_93, r_93⟩) (fun N9 => N9.made g_121) (by rw [tx9] at p_121; rw [show J 7 x = J_93 7 x from (((q_93).1.2.2.2.1.1 x hz.1 (by omega)).1).symm]; exact p_121))⟩⟩
      · refine tz_iconst (pc := 75) dX10_solvedTerm_75 ?_
        refine tz_goto (pc := 76) (tgt := 96) dX10_solvedTerm_76 (by decide) ?_
        refine tz_istore (pc := 96) (L2 := [_, _, _, _, _, _, _]) dX10_solvedTerm_96 (by decide) rfl ?_
        refine tz_aload_n (pc := 98) dX10_solvedTerm_98 rfl rfl ?_
        refine tz_fR (pc := 99) dX10_solvedTerm_99 fl_X10_46 r_145_0 ?_
        refine tz_aload_n (pc := 102) dX10_solvedTerm_102 rfl rfl ?_
        refine tz_fR (pc := 103) dX10_solvedTerm_103 fl_X10_46 r_145_0 ?_
        refine tz_fR (pc := 106) dX10_solvedTerm_106 fl_X10_84 r_6_1 ?_
        refine tz_aload_n (pc := 109) dX10_solvedTerm_109 rfl rfl ?_
        refine tz_iload_n (pc := 110) dX10_solvedTerm_110 rfl rfl ?_
        refine tz_cV (pc := 111) (c_uTerm hl n _ _ (by omega) (by omega)) vl_X10_68 dX10_solvedTerm_111 o_145 rfl rfl (Nat.le_of_ble_eq_true rfl) ⟨(show 0 + 1 ≤ d9 + 1 by omega), (show 8 + (2 + 11) + 40 * (0) ≤ 40 * (d9 + 1) by omega)⟩ rfl rfl (Nat.le_of_ble_eq_true rfl) (Nat.le_of_ble_eq_true rfl) (fun r9 J_111 hq9 => ?_)
        obtain ⟨z_111, rfl, hz_111, rfl, rfl⟩ := hq9
        refine tz_aL (pc := 114) (z := (tm x)) (v := (J 7 (tm x))) dX10_solvedTerm_114 a_7 rfl (by omega) rfl (fun r_114 => ?_)
        refine tz_iload (pc := 115) dX10_solvedTerm_115 rfl ?_
        refine tz_iload (pc := 117) dX10_solvedTerm_117 rfl ?_
        refine tz_iload (pc := 119) dX10_solvedTerm_119 rfl ?_
        have z_9 := ((UG.rf C hm hU)).1.2.1.ar (t := tm x) ht.1 (by have := ((UG.rf C hm hU)).1.1; omega)
        have z_8 := ((UG.rf C hm hU)).1.2.1.told
        have s9 := ((UG.rf C hm hU)).1.2.2.2.1.1 (tm x) ht.1 ht.2
        have m9 := ((UG.rf C hm hU)).1.1
        refine tz_cV (pc := 121) (c_made hl n _ _ _ _ _ (by omega) (by omega) (by omega) (by omega) m ((UG.rf C hm hU)).1.2.1 ((UG.rf C hm hU)).1.2.2.1 (by omega) (ltA_of (by omega) (by omega) (by omega))) vl_X10_108 dX10_solvedTerm_121 o_6 rfl rfl (Nat.le_of_ble_eq_true rfl) ⟨(show 2 + 1 ≤ d9 + 1 by omega), (show 8 + (11 + 11) + 40 * (2) ≤ 40 * (d9 + 1) by omega)⟩ rfl rfl (Nat.le_of_ble_eq_true rfl) (Nat.le_of_ble_eq_true rfl) (fun r9 J_121 hq9 => ?_)
        obtain ⟨z_121, rfl, hz_121, p_121⟩ := hq9
        obtain ⟨m_121, g_121, h_121⟩ := GR.made p_121 (by omega)
        have q_121 := UG.made (UG.rf C hm hU) g_121
        have l_121 := hV.made (by omega) (Or.inr (fun y a c e => by have := ((((UG.rf C hm hU)).2.1 y a c).2 (by rw [e])).2.2.2.1.z; exact this)) g_121
        exact tz_iret (pc := 124) (z := z_121) dX10_solvedTerm_124 rfl (Nat.le_of_ble_eq_true rfl) (Nat.le_of_ble_eq_true rfl) ⟨Nat.le_refl _, Nat.le_add_right _ _⟩ ⟨_, rfl, (by omega), ⟨m_121, q_121, h_121, l_121, fun q9 => by have w9 := gcE (X := [146, 147, 148, 149, 150, 154]) ⟨rfl, rfl⟩ C hm ⟨hz.1, (by omega)⟩ hv er (Or.inr ⟨by omega, rfl, rfl⟩) (Or.inr ⟨by omega, rfl, rfl⟩) (Or.inr ⟨by omega, rfl, rfl⟩) (by rw [tx9] at p_121; rw [show J 7 x = J 7 x from ((((UG.rf C hm hU)).1.2.2.2.1.1 x hz.1 (by omega)).1).symm]; exact p_121) q9; rw [g_121.2.2.1] at w9; exact w9, fun S hG E N => by exact exd_w hG E C hm ⟨hz.1, (by omega)⟩ hv (by omega) er (gpD (X := [146, 147, 148, 149, 150, 154]) ⟨rfl, rfl⟩ (fun S i h => grO_f h) hG E N C hm (C.ar hz.1 (by omega)).2.2 (C.2.1 x hz.1 (by omega)).1.1.symm (Or.inr ⟨by omega, rfl, rfl⟩) (Or.inr ⟨by omega, rfl, rfl⟩) (Or.inr ⟨by omega, rfl, rfl⟩) (fun N9 => N9.made g_121) (by rw [tx9] at p_121; rw [show J 7 x = J 7 x from ((((UG.rf C hm hU)).1.2.2.2.1.1 x hz.1 (by omega)).1).symm]; exact p_121))⟩⟩

set_option maxHeartbeats 4000000 in
set_option maxRecDepth 100000 in
theorem u_solvedClass {l : Launch} {G : tb_G} (hl : l.stackTraces = false) (n : Nat) : ∀ (r9 : Nat) (J : zJ) (x : Int) (lv : Int) (hr_x : -2147483648 ≤ x ∧ x < 2147483648) (hr_lv : -2147483648 ≤ lv ∧ lv < 2147483648) (m0 : Int) (T sh lvv ρ : Int → Int) (m : Int) (C : CT J m) (hm : J 6 12 = m) (hU : UI J 0 m) (hm0 : m0 ≤ m) (hx : VN 400 m0 x) (hV : SLV m0 T sh lvv ρ J m) (hC : CRO m0 T sh lvv ρ J) (ax : J 146 x = J 145 10) (rx : T x = x), ((7 - lv).toNat) < r9 → tz_Ok l G M_X10_solvedClass (6 + 2 * r9) 0 0 [.ref 145, zi x, zi lv] n J (zqi (fun z J' => ∃ m', UG J' J m m' ∧ (z = -3 ∨ (0 ≤ z ∧ z < m')) ∧ SLV m0 T sh lvv ρ J' m' ∧ (0 ≤ z → GCj ρ J' m' x z) ∧ ∀ S, S 164 21 = 0 → A0 J S → nNO m0 J → EXK (nNO m0) (7 - lv).toNat (grO ρ (7 - lv).toNat S x) z J')) zN := by
  intro r9
  induction r9 with
  | zero => intro J x lv hr_x hr_lv m0 T sh lvv ρ m C hm hU hm0 hx hV hC ax rx hm9; exact absurd hm9 (Nat.not_lt_zero _)
  | succ r9 ih =>
    intro J x lv hr_x hr_lv m0 T sh lvv ρ m C hm hU hm0 hx hV hC ax rx hm9
    refine tz_Ok.of hl (by decide +kernel) rfl (tb_c1 rfl) (Nat.le_of_ble_eq_true rfl) ?_
    show tz_At l G M_X10_solvedClass (tb_rm (6 + 2 * (r9 + 1)) 0 0) none (tb_ZM G 0 0 (zQ n 0 (zqi (fun z J' => ∃ m', UG J' J m m' ∧ (z = -3 ∨ (0 ≤ z ∧ z < m')) ∧ SLV m0 T sh lvv ρ J' m' ∧ (0 ≤ z → GCj ρ J' m' x z) ∧ ∀ S, S 164 21 = 0 → A0 J S → nNO m0 J → EXK (nNO m0) (7 - lv).toNat (grO ρ (7 - lv).toNat S x) z J'))) (zX n 0 zN)) 0 0 n J 0 [some (.ref 145), some (zi x), some (zi lv), none] []
    have hb := C.told
    have hz := hx.z
    have hx9 := (UW.rf hU).at hb.2 (Or.inl (show 0 ≤ x ∧ x < m by omega)) ax
    have hl9 := hx9.2.2.2.1.z
    have hs9 := hx9.2.2.2.2
    have ho9 : J 148 x = -1 ∨ (0 ≤ J 148 x ∧ J 148 x < m) := hx9.2.2.1.imp id (fun q => q.z)
    have sh9 : J 148 x = sh x := by rw [← (hV.2.1 x hx).2.1]; unfold usV; rw [if_pos ax]
    refine tz_iload_n (pc := 0) dX10_solvedClass_0 rfl rfl ?_
    refine tz_bipush (pc := 1) dX10_solvedClass_1 (by decide) ?_
    refine tz_icmp_le (pc := 3) (tgt := 9) dX10_solvedClass_3 (by decide) (by omega) (by decide) (fun h_3 => ?_) (fun h_3 => ?_)
    · refine tz_aload_n (pc := 9) dX10_solvedClass_9 rfl rfl ?_
      refine tz_fR (pc := 10) dX10_solvedClass_10 fl_X10_24 r_145_5 ?_
      refine tz_iload_n (pc := 13) dX10_solvedClass_13 rfl rfl ?_
      refine tz_aL (pc := 14) (z := x) (v := (J 150 x)) dX10_solvedClass_14 a_150 rfl (by omega) rfl (fun r_14 => ?_)
      refine tz_iconst (pc := 15) dX10_solvedClass_15 ?_
      refine tz_icmp_ne (pc := 16) (tgt := 52) dX10_solvedClass_16 (by decide) (by omega) (by decide) (fun h_16 => ?_) (fun h_16 => ?_)
      · refine tz_aload_n (pc := 52) dX10_solvedClass_52 rfl rfl ?_
        refine tz_fR (pc := 53) dX10_solvedClass_53 fl_X10_24 r_145_5 ?_
        refine tz_iload_n (pc := 56) dX10_solvedClass_56 rfl rfl ?_
        refine tz_aL (pc := 57) (z := x) (v := (J 150 x)) dX10_solvedClass_57 a_150 rfl (by omega) rfl (fun r_57 => ?_)
        exact tz_iret (pc := 58) (z := (J 150 x)) dX10_solvedClass_58 rfl (Nat.le_of_ble_eq_true rfl) (Nat.le_of_ble_eq_true rfl) ⟨Nat.le_refl _, Nat.le_add_right _ _⟩ ⟨_, rfl, (by omega), (by have o9 : uoV J x = J 150 x := (by unfold uoV; rw [if_pos ax]); have g9 : 0 ≤ J 150 x → GCj ρ J m x (J 150 x) := (fun q9 => by have w9 := hV.2.2 x hx rx; rw [o9] at w9; exact w9 q9); exact ⟨m, UG.rf C hm hU, by omega, hV, g9, fun S hG E N => (g9 (by have n9 := N x hx; rw [o9] at n9; omega)).ex C hm hG E N⟩)⟩
      · refine tz_aload_n (pc := 19) dX10_solvedClass_19 rfl rfl ?_
        refine tz_fR (pc := 20) dX10_solvedClass_20 fl_X10_18 r_145_3 ?_
        refine tz_iload_n (pc := 23) dX10_solvedClass_23 rfl rfl ?_
        refine tz_aL (pc := 24) (z := x) (v := (J 148 x)) dX10_solvedClass_24 a_148 rfl (by omega) rfl (fun r_24 => ?_)
        refine tz_istore_n (pc := 25) (L2 := [_, _, _, _]) dX10_solvedClass_25 rfl (by decide) rfl ?_
        refine tz_aload_n (pc := 26) dX10_solvedClass_26 rfl rfl ?_
        refine tz_fR (pc := 27) dX10_solvedClass_27 fl_X10_24 r_145_5 ?_
        refine tz_iload_n (pc := 30) dX10_solvedClass_30 rfl rfl ?_
        refine tz_iload_n (pc := 31) dX10_solvedClass_31 rfl rfl ?_
        refine tz_iconst (pc := 32) dX10_solvedClass_32 ?_
        refine tz_icmp_ne (pc := 33) (tgt := 45) dX10_solvedClass_33 (by decide) (by omega) (by decide) (fun h_33 => ?_) (fun h_33 => ?_)
        · refine tz_aload_n (pc := 45) dX10_solvedClass_45 rfl rfl ?_
          refine tz_iload_n (pc := 46) dX10_solvedClass_46 rfl rfl ?_
          refine tz_iload_n (pc := 47) dX10_solvedClass_47 rfl rfl ?_
          have cr9 := (hC.2 x hx rx).2 (by rw [← sh9]; omega)
          rw [← sh9] at cr9
          refine tz_cV (pc := 48) (u_solvedTerm hl n _ _ _ (by omega) (by omega) m0 T sh lvv ρ x (6 + 2 * r9) (by omega) (fun J x a m b1 b2 b3 b4 b5 b6 b7 b8 b9 => ih J x _ a (by omega) m0 T sh lvv ρ m b1 b2 b3 b4 b5 b6 b7 b8 b9 (by omega)) m C hm hU hm0 cr9.1 hV hC cr9.2.1 cr9.2.2 (by omega)) vl_X10_105 dX10_solvedClass_48 o_145 rfl rfl (Nat.le_of_ble_eq_true rfl) ⟨(show (6 + 2 * r9 + 1) + 1 ≤ 6 + 2 * (r9 + 1) by omega), (show 8 + (7 + 11) + 40 * ((6 + 2 * r9 + 1)) ≤ 40 * (6 + 2 * (r9 + 1)) by omega)⟩ rfl rfl (Nat.le_of_ble_eq_true rfl) (Nat.le_of_ble_eq_true rfl) (fun r9 J_48 hq9 => ?_)
          obtain ⟨z_48, rfl, hz_48, m_48, q_48, h_48, l_48, gc_48, ex_48⟩ := hq9
          refine tz_aS (pc := 51) (z := x) dX10_solvedClass_51 a_150 rfl (by omega) (by omega) ?_
          refine tz_aload_n (pc := 52) dX10_solvedClass_52 rfl rfl ?_
          refine tz_fR (pc := 53) dX10_solvedClass_53 fl_X10_24 r_145_5 ?_
          refine tz_iload_n (pc := 56) dX10_solvedClass_56 rfl rfl ?_
          refine tz_aL (pc := 57) (z := x) (v := z_48) dX10_solvedClass_57 a_150 rfl (by omega) (by simp [zup]) (fun r_57 => ?_)
          exact tz_iret (pc := 58) (z := z_48) dX10_solvedClass_58 rfl (Nat.le_of_ble_eq_true rfl) (Nat.le_of_ble_eq_true rfl) ⟨Nat.le_refl _, Nat.le_add_right _ _⟩ ⟨_, rfl, (by omega), (by have ax9 : J_48 146 x = J_48 145 10 := (q_48.2.2.2 x ax).trans q_48.2.2.1.symm; exact ⟨m_48, q_48.sv h_48, h_48, l_48.up ax9 gc_48, fun q9 => (gc_48 q9).of (fun q8 hq8 => zup_nc (by omega)), fun S hG E N => (ex_48 S hG E N).up5 ax9⟩)⟩
        · refine tz_aload_n (pc := 36) dX10_solvedClass_36 rfl rfl ?_
          refine tz_fR (pc := 37) dX10_solvedClass_37 fl_X10_21 r_145_4 ?_
          refine tz_iload_n (pc := 40) dX10_solvedClass_40 rfl rfl ?_
          refine tz_aL (pc := 41) (z := x) (v := (J 149 x)) dX10_solvedClass_41 a_149 rfl (by omega) rfl (fun r_41 => ?_)
          refine tz_goto (pc := 42) (tgt := 51) dX10_solvedClass_42 (by decide) ?_
          refine tz_aS (pc := 51) (z := x) dX10_solvedClass_51 a_150 rfl (by omega) (by omega) ?_
          refine tz_aload_n (pc := 52) dX10_solvedClass_52 rfl rfl ?_
          refine tz_fR (pc := 53) dX10_solvedClass_53 fl_X10_24 r_145_5 ?_
          refine tz_iload_n (pc := 56) dX10_solvedClass_56 rfl rfl ?_
          refine tz_aL (pc := 57) (z := x) (v := (J 149 x)) dX10_solvedClass_57 a_150 rfl (by omega) (by simp [zup]) (fun r_57 => ?_)
          exact tz_iret (pc := 58) (z := (J 149 x)) dX10_solvedClass_58 rfl (Nat.le_of_ble_eq_true rfl) (Nat.le_of_ble_eq_true rfl) ⟨Nat.le_refl _, Nat.le_add_right _ _⟩ ⟨_, rfl, (by omega), (by have cr9 := (hC.2 x hx rx).1 (by rw [← sh9]; omega); have lv9 := (hV.2.1 x hx).2.2; have l8 : ulV J x = -1 - J 7 (J 149 x) := (by unfold ulV; rw [if_pos ax]; unfold tm; rw [if_pos (by omega)]); have e9 : J 149 x = ρ x := ct_vu C hl9 (by have := cr9.1.z; omega) (by omega) (by omega); have g9 : GCj ρ J m x (J 149 x) := gcj_w hl9 (by omega) e9.symm; exact ⟨m, (UG.rf C hm hU).sv (Or.inr hl9), Or.inr hl9, hV.up ax (fun _ => g9), fun _ => g9.of (fun q8 hq8 => zup_nc (by omega)), fun S hG E N => (g9.ex C hm hG E N).up5 ax⟩)⟩
    · refine tz_bipush (pc := 6) dX10_solvedClass_6 (by decide) ?_
      exact tz_iret (pc := 8) (z := (-3)) dX10_solvedClass_8 rfl (Nat.le_of_ble_eq_true rfl) (Nat.le_of_ble_eq_true rfl) ⟨Nat.le_refl _, Nat.le_add_right _ _⟩ ⟨_, rfl, (by decide), ⟨m, UG.rf C hm hU, Or.inl rfl, hV, fun q9 => absurd q9 (by decide), fun S hG E N => exd_0 C (Or.inl rfl) (by omega)⟩⟩

