section
/-! ===== what a class is made to, in the class, exact ===== -/
set_option maxHeartbeats 4000000 in
set_option maxRecDepth 100000 in
theorem u_topM {l : Launch} {G : tb_G} (hl : l.stackTraces = false) (n : Nat) (J : zJ) (x : Int) (hr_x : -2147483648 ≤ x ∧ x < 2147483648) (b m c m0 : Int) (hm : 0 ≤ m ∧ m ≤ 400) (hx : nd b m x) (hU : UI J b m) (hP : UFp (VN c m0) (upV J)) (hc9 : c = 400 ∨ c = 800) (hxv : VN c m0 x) : tz_Ok l G M_X10_topOf 2 0 0 [.ref 145, zi x] n J (zqi (fun z J' => (UW J' J b m ∧ (nd b m z ∧ J' 146 z = J 145 10) ∧ zOf (zbut [146, 147, 148, 149, 150, 154]) J' J) ∧ vE c m0 J' J ∧ z = tp (upV J) x)) zN := by
  refine tz_Ok.of hl (by decide +kernel) rfl (tb_c1 rfl) (Nat.le_of_ble_eq_true rfl) ?_
  show tz_At l G M_X10_topOf (tb_rm 2 0 0) none (tb_ZM G 0 0 (zQ n 0 (zqi (fun z J' => (UW J' J b m ∧ (nd b m z ∧ J' 146 z = J 145 10) ∧ zOf (zbut [146, 147, 148, 149, 150, 154]) J' J) ∧ vE c m0 J' J ∧ z = tp (upV J) x))) (zX n 0 zN)) 0 0 n J 0 [some (.ref 145), some (zi x), none, none] []
  have ht := hx.ix hm
  have hx2 := hx.rg hm
  obtain ⟨rk, rk8, rkh⟩ := hP.b (fun y q => VN.b hc9 q)
  have rkx := rk8 x hxv
  refine tz_aload_n (pc := 0) dX10_topOf_0 rfl rfl ?_
  refine tz_fR (pc := 1) dX10_topOf_1 fl_X10_11 r_145_1 ?_
  refine tz_iload_n (pc := 4) dX10_topOf_4 rfl rfl ?_
  refine tz_aL (pc := 5) (z := x) (v := (J 146 x)) dX10_topOf_5 a_146 rfl (by omega) rfl (fun r_5 => ?_)
  refine tz_aload_n (pc := 6) dX10_topOf_6 rfl rfl ?_
  refine tz_fI (pc := 7) (kz := 10) (v := (J 145 10)) dX10_topOf_7 fl_X10_39 i_145_10 rfl rfl (fun r_7 => ?_)
  refine tz_icmp_eq (pc := 10) (tgt := 18) dX10_topOf_10 (by decide) (by omega) (by omega) (fun h_10 => ?_) (fun h_10 => ?_)
  · refine tz_iload_n (pc := 18) dX10_topOf_18 rfl rfl ?_
    refine tz_istore_n (pc := 19) (L2 := [_, _, _, _]) dX10_topOf_19 rfl (by decide) rfl ?_
    refine tz_iconst (pc := 20) dX10_topOf_20 ?_
    refine tz_istore_n (pc := 21) (L2 := [_, _, _, _]) dX10_topOf_21 rfl (by decide) rfl ?_
    have loop22 : ∀ (f9 : Nat) (x1 : Int) (k : Int) (J1 : zJ), ((800 - k).toNat) < f9 → (0 ≤ k ∧ k ≤ 800) → (UW J1 J b m) → (nd b m x1) → (J1 146 x1 = J 145 10) → (zOf (zbut [146, 147, 148, 149, 150, 154]) J1 J) → (vE c m0 J1 J) → (tp (upV J) x1 = tp (upV J) x) → (RKb c m0 rk (upV J1)) → ((rk x1 : Int) + k ≤ 799) → (VN c m0 x1) → tz_At l G M_X10_topOf (tb_rm 2 0 0) none (tb_ZM G 0 0 (zQ n 0 (zqi (fun z J' => (UW J' J b m ∧ (nd b m z ∧ J' 146 z = J 145 10) ∧ zOf (zbut [146, 147, 148, 149, 150, 154]) J' J) ∧ vE c m0 J' J ∧ z = tp (upV J) x))) (zX n 0 zN)) 0 0 n J1 22 [some (.ref 145), some (zi x), some (zi x1), some (zi k)] [] := by
      intro f9
      induction f9 with
      | zero => intro x1 k J1 hm9; exact absurd hm9 (Nat.not_lt_zero _)
      | succ f9 ih22 =>
        intro x1 k J1 hm22 hk hw hn ha hf hv htx hr hd hxv1
        have h1 := hw.at hm hn ha
        have h1r := hn.rg hm
        have h2 := hw.at hm h1.2.1.1 (by have := h1.2.1.2; rw [hw.2.1] at this; exact this)
        have h2r := h1.2.1.1.rg hm
        have h3r := h2.2.1.1.rg hm
        have ha9 : J1 146 x1 = J1 145 10 := ha.trans hw.2.1.symm
        have vs9 := vshort hv.1 hxv1 ha9 h1.2.1.2
        have pp1 : upV J1 x1 = J1 147 x1 := by unfold upV; rw [if_pos ha9]
        have pp2 : upV J1 (J1 147 x1) = J1 147 (J1 147 x1) := by unfold upV; rw [if_pos h1.2.1.2]
        have vx2 : VN c m0 (J1 147 x1) := by rw [← pp1]; exact hv.1.V hxv1
        have vx3 : VN c m0 (J1 147 (J1 147 x1)) := by rw [← pp2]; exact hv.1.V vx2
        have tx9 : tp (upV J1) (J1 147 (J1 147 x1)) = tp (upV J1) x1 := by rw [← pp2, hv.1.p _ vx2, ← pp1, hv.1.p _ hxv1]
        have rr1 := (hr x1 hxv1).2
        have rr2 := (hr _ vx2).2
        rw [pp1] at rr1
        rw [pp2] at rr2
        refine tz_iload_n (pc := 22) dX10_topOf_22 rfl rfl ?_
        refine tz_sipush (pc := 23) dX10_topOf_23 (by decide) ?_
        refine tz_icmp_ge (pc := 26) (tgt := 69) dX10_topOf_26 (by decide) (by omega) (by decide) (fun h_26 => ?_) (fun h_26 => ?_)
        · refine tz_iload_n (pc := 69) dX10_topOf_69 rfl rfl ?_
          exact tz_iret (pc := 70) (z := x1) dX10_topOf_70 rfl (Nat.le_of_ble_eq_true rfl) (Nat.le_of_ble_eq_true rfl) ⟨Nat.le_refl _, Nat.le_add_right _ _⟩ ⟨_, rfl, (by omega), ⟨⟨hw, ⟨hn, ha⟩, hf⟩, hv, by rw [← htx, ← hv.2.1 x1 hxv1]; exact (tp_r (pp1.trans (by omega))).symm⟩⟩
        · refine tz_aload_n (pc := 29) dX10_topOf_29 rfl rfl ?_
          refine tz_fR (pc := 30) dX10_topOf_30 fl_X10_15 r_145_2 ?_
          refine tz_iload_n (pc := 33) dX10_topOf_33 rfl rfl ?_
          refine tz_aL (pc := 34) (z := x1) (v := (J1 147 x1)) dX10_topOf_34 a_147 rfl (by omega) rfl (fun r_34 => ?_)
          refine tz_iload_n (pc := 35) dX10_topOf_35 rfl rfl ?_
          refine tz_icmp_eq (pc := 36) (tgt := 69) dX10_topOf_36 (by decide) (by omega) (by omega) (fun h_36 => ?_) (fun h_36 => ?_)
          · refine tz_iload_n (pc := 69) dX10_topOf_69 rfl rfl ?_
            exact tz_iret (pc := 70) (z := x1) dX10_topOf_70 rfl (Nat.le_of_ble_eq_true rfl) (Nat.le_of_ble_eq_true rfl) ⟨Nat.le_refl _, Nat.le_add_right _ _⟩ ⟨_, rfl, (by omega), ⟨⟨hw, ⟨hn, ha⟩, hf⟩, hv, by rw [← htx, ← hv.2.1 x1 hxv1]; exact (tp_r (pp1.trans (by omega))).symm⟩⟩
          · refine tz_aload_n (pc := 39) dX10_topOf_39 rfl rfl ?_
            refine tz_fR (pc := 40) dX10_topOf_40 fl_X10_15 r_145_2 ?_
            refine tz_iload_n (pc := 43) dX10_topOf_43 rfl rfl ?_
            refine tz_aload_n (pc := 44) dX10_topOf_44 rfl rfl ?_
            refine tz_fR (pc := 45) dX10_topOf_45 fl_X10_15 r_145_2 ?_
            refine tz_aload_n (pc := 48) dX10_topOf_48 rfl rfl ?_
            refine tz_fR (pc := 49) dX10_topOf_49 fl_X10_15 r_145_2 ?_
            refine tz_iload_n (pc := 52) dX10_topOf_52 rfl rfl ?_
            refine tz_aL (pc := 53) (z := x1) (v := (J1 147 x1)) dX10_topOf_53 a_147 rfl (by omega) rfl (fun r_53 => ?_)
            refine tz_aL (pc := 54) (z := (J1 147 x1)) (v := (J1 147 (J1 147 x1))) dX10_topOf_54 a_147 rfl (by omega) rfl (fun r_54 => ?_)
            refine tz_aS (pc := 55) (z := x1) dX10_topOf_55 a_147 rfl (by omega) (by omega) ?_
            refine tz_aload_n (pc := 56) dX10_topOf_56 rfl rfl ?_
            refine tz_fR (pc := 57) dX10_topOf_57 fl_X10_15 r_145_2 ?_
            refine tz_iload_n (pc := 60) dX10_topOf_60 rfl rfl ?_
            refine tz_aL (pc := 61) (z := x1) (v := (J1 147 (J1 147 x1))) dX10_topOf_61 a_147 rfl (by omega) (by simp [zup]) (fun r_61 => ?_)
            refine tz_istore_n (pc := 62) (L2 := [_, _, _, _]) dX10_topOf_62 rfl (by decide) rfl ?_
            refine tz_iinc (pc := 63) (z := k + 1) (L2 := [_, _, _, _]) dX10_topOf_63 rfl (by omega) rfl ?_
            refine tz_goto (pc := 66) (tgt := 22) dX10_topOf_66 (by decide) ?_
            exact ih22 _ (k + 1) _ (by omega) (by omega) (hw.p7 h2.2.1.1 (by have := h2.2.1.2; rw [hw.2.1] at this; exact this)) h2.2.1.1 (by have := h2.2.1.2; rw [hw.2.1] at this; exact this) (zOf.up rfl hf) (vs9.1.tr hv) ((hv.2.1 _ vx3).symm.trans (tx9.trans ((hv.2.1 x1 hxv1).trans htx))) (hr.short hxv1 vs9.2) (by have r9 := rk_st rr1 rr2 (by omega); omega) vx3
    exact loop22 _ _ 0 _ (Nat.lt_succ_self _) (by omega) (UW.rf hU) hx h_10 zOf.rf (vE.rf hP) rfl rkh (by omega) hxv
  · refine tz_aload_n (pc := 13) dX10_topOf_13 rfl rfl ?_
    refine tz_iload_n (pc := 14) dX10_topOf_14 rfl rfl ?_
    refine tz_cV (pc := 15) (u_wake hl n _ _ (by omega) b m hm hx hU) vl_X10_80 dX10_topOf_15 o_145 rfl rfl (Nat.le_of_ble_eq_true rfl) ⟨(Nat.le_of_ble_eq_true rfl), (Nat.le_of_ble_eq_true rfl)⟩ rfl rfl (Nat.le_of_ble_eq_true rfl) (Nat.le_of_ble_eq_true rfl) (fun r9 J_15 hq9 => ?_)
    obtain ⟨rfl, ⟨⟨w1, w2⟩, w3⟩, w4⟩ := hq9
    refine tz_iload_n (pc := 18) dX10_topOf_18 rfl rfl ?_
    refine tz_istore_n (pc := 19) (L2 := [_, _, _, _]) dX10_topOf_19 rfl (by decide) rfl ?_
    refine tz_iconst (pc := 20) dX10_topOf_20 ?_
    refine tz_istore_n (pc := 21) (L2 := [_, _, _, _]) dX10_topOf_21 rfl (by decide) rfl ?_
    have loop22 : ∀ (f9 : Nat) (x1 : Int) (k : Int) (J1 : zJ), ((800 - k).toNat) < f9 → (0 ≤ k ∧ k ≤ 800) → (UW J1 J b m) → (nd b m x1) → (J1 146 x1 = J 145 10) → (zOf (zbut [146, 147, 148, 149, 150, 154]) J1 J) → (vE c m0 J1 J) → (tp (upV J) x1 = tp (upV J) x) → (RKb c m0 rk (upV J1)) → ((rk x1 : Int) + k ≤ 799) → (VN c m0 x1) → tz_At l G M_X10_topOf (tb_rm 2 0 0) none (tb_ZM G 0 0 (zQ n 0 (zqi (fun z J' => (UW J' J b m ∧ (nd b m z ∧ J' 146 z = J 145 10) ∧ zOf (zbut [146, 147, 148, 149, 150, 154]) J' J) ∧ vE c m0 J' J ∧ z = tp (upV J) x))) (zX n 0 zN)) 0 0 n J1 22 [some (.ref 145), some (zi x), some (zi x1), some (zi k)] [] := by
      intro f9
      induction f9 with
      | zero => intro x1 k J1 hm9; exact absurd hm9 (Nat.not_lt_zero _)
      | succ f9 ih22 =>
        intro x1 k J1 hm22 hk hw hn ha hf hv htx hr hd hxv1
        have h1 := hw.at hm hn ha
        have h1r := hn.rg hm
        have h2 := hw.at hm h1.2.1.1 (by have := h1.2.1.2; rw [hw.2.1] at this; exact this)
        have h2r := h1.2.1.1.rg hm
        have h3r := h2.2.1.1.rg hm
        have ha9 : J1 146 x1 = J1 145 10 := ha.trans hw.2.1.symm
        have vs9 := vshort hv.1 hxv1 ha9 h1.2.1.2
        have pp1 : upV J1 x1 = J1 147 x1 := by unfold upV; rw [if_pos ha9]
        have pp2 : upV J1 (J1 147 x1) = J1 147 (J1 147 x1) := by unfold upV; rw [if_pos h1.2.1.2]
        have vx2 : VN c m0 (J1 147 x1) := by rw [← pp1]; exact hv.1.V hxv1
        have vx3 : VN c m0 (J1 147 (J1 147 x1)) := by rw [← pp2]; exact hv.1.V vx2
        have tx9 : tp (upV J1) (J1 147 (J1 147 x1)) = tp (upV J1) x1 := by rw [← pp2, hv.1.p _ vx2, ← pp1, hv.1.p _ hxv1]
        have rr1 := (hr x1 hxv1).2
        have rr2 := (hr _ vx2).2
        rw [pp1] at rr1
        rw [pp2] at rr2
        refine tz_iload_n (pc := 22) dX10_topOf_22 rfl rfl ?_
        refine tz_sipush (pc := 23) dX10_topOf_23 (by decide) ?_
        refine tz_icmp_ge (pc := 26) (tgt := 69) dX10_topOf_26 (by decide) (by omega) (by decide) (fun h_26 => ?_) (fun h_26 => ?_)
        · refine tz_iload_n (pc := 69) dX10_topOf_69 rfl rfl ?_
          exact tz_iret (pc := 70) (z := x1) dX10_topOf_70 rfl (Nat.le_of_ble_eq_true rfl) (Nat.le_of_ble_eq_true rfl) ⟨Nat.le_refl _, Nat.le_add_right _ _⟩ ⟨_, rfl, (by omega), ⟨⟨hw, ⟨hn, ha⟩, hf⟩, hv, by rw [← htx, ← hv.2.1 x1 hxv1]; exact (tp_r (pp1.trans (by omega))).symm⟩⟩
        · refine tz_aload_n (pc := 29) dX10_topOf_29 rfl rfl ?_
          refine tz_fR (pc := 30) dX10_topOf_30 fl_X10_15 r_145_2 ?_
          refine tz_iload_n (pc := 33) dX10_topOf_33 rfl rfl ?_
          refine tz_aL (pc := 34) (z := x1) (v := (J1 147 x1)) dX10_topOf_34 a_147 rfl (by omega) rfl (fun r_34 => ?_)
          refine tz_iload_n (pc := 35) dX10_topOf_35 rfl rfl ?_
          refine tz_icmp_eq (pc := 36) (tgt := 69) dX10_topOf_36 (by decide) (by omega) (by omega) (fun h_36 => ?_) (fun h_36 => ?_)
          · refine tz_iload_n (pc := 69) dX10_topOf_69 rfl rfl ?_
            exact tz_iret (pc := 70) (z := x1) dX10_topOf_70 rfl (Nat.le_of_ble_eq_true rfl) (Nat.le_of_ble_eq_true rfl) ⟨Nat.le_refl _, Nat.le_add_right _ _⟩ ⟨_, rfl, (by omega), ⟨⟨hw, ⟨hn, ha⟩, hf⟩, hv, by rw [← htx, ← hv.2.1 x1 hxv1]; exact (tp_r (pp1.trans (by omega))).symm⟩⟩
          · refine tz_aload_n (pc := 39) dX10_topOf_39 rfl rfl ?_
            refine tz_fR (pc := 40) dX10_topOf_40 fl_X10_15 r_145_2 ?_
            refine tz_iload_n (pc := 43) dX10_topOf_43 rfl rfl ?_
            refine tz_aload_n (pc := 44) dX10_topOf_44 rfl rfl ?_
            refine tz_fR (pc := 45) dX10_topOf_45 fl_X10_15 r_145_2 ?_
            refine tz_aload_n (pc := 48) dX10_topOf_48 rfl rfl ?_
            refine tz_fR (pc := 49) dX10_topOf_49 fl_X10_15 r_145_2 ?_
            refine tz_iload_n (pc := 52) dX10_topOf_52 rfl rfl ?_
            refine tz_aL (pc := 53) (z := x1) (v := (J1 147 x1)) dX10_topOf_53 a_147 rfl (by omega) rfl (fun r_53 => ?_)
            refine tz_aL (pc := 54) (z := (J1 147 x1)) (v := (J1 147 (J1 147 x1))) dX10_topOf_54 a_147 rfl (by omega) rfl (fun r_54 => ?_)
            refine tz_aS (pc := 55) (z := x1) dX10_topOf_55 a_147 rfl (by omega) (by omega) ?_
            refine tz_aload_n (pc := 56) dX10_topOf_56 rfl rfl ?_
            refine tz_fR (pc := 57) dX10_topOf_57 fl_X10_15 r_145_2 ?_
            refine tz_iload_n (pc := 60) dX10_topOf_60 rfl rfl ?_
            refine tz_aL (pc := 61) (z := x1) (v := (J1 147 (J1 147 x1))) dX10_topOf_61 a_147 rfl (by omega) (by simp [zup]) (fun r_61 => ?_)
            refine tz_istore_n (pc := 62) (L2 := [_, _, _, _]) dX10_topOf_62 rfl (by decide) rfl ?_
            refine tz_iinc (pc := 63) (z := k + 1) (L2 := [_, _, _, _]) dX10_topOf_63 rfl (by omega) rfl ?_
            refine tz_goto (pc := 66) (tgt := 22) dX10_topOf_66 (by decide) ?_
            exact ih22 _ (k + 1) _ (by omega) (by omega) (hw.p7 h2.2.1.1 (by have := h2.2.1.2; rw [hw.2.1] at this; exact this)) h2.2.1.1 (by have := h2.2.1.2; rw [hw.2.1] at this; exact this) (zOf.up rfl hf) (vs9.1.tr hv) ((hv.2.1 _ vx3).symm.trans (tx9.trans ((hv.2.1 x1 hxv1).trans htx))) (hr.short hxv1 vs9.2) (by have r9 := rk_st rr1 rr2 (by omega); omega) vx3
    exact loop22 _ _ 0 _ (Nat.lt_succ_self _) (by omega) w1 hx w2 w3 ((w4 h_10).e hP) rfl (by rw [(w4 h_10).p]; exact rkh) (by omega) hxv

/-- classes while they are made to terms -/
def SLV (m0 : Int) (T sh lv ρ : Int → Int) (J : zJ) (m : Int) : Prop := UFp (VN 400 m0) (upV J) ∧ (∀ x, VN 400 m0 x → tp (upV J) x = T x ∧ usV J x = sh x ∧ ulV J x = lv x) ∧ ∀ x, VN 400 m0 x → T x = x → 0 ≤ uoV J x → GCj ρ J m x (uoV J x)
def nNO (m0 : Int) (J : zJ) : Prop := ∀ x, VN 400 m0 x → ¬ uoV J x = -3
/-- what stays of them -/
def CRO (m0 : Int) (T sh lv ρ : Int → Int) (J : zJ) : Prop := (∀ t, VN 400 m0 t → VN 400 m0 (T t) ∧ T (T t) = T t ∧ ρ t = ρ (T t)) ∧ ∀ x, VN 400 m0 x → T x = x → (sh x = -1 → VN 400 m0 (ρ x) ∧ J 7 (ρ x) = -1 - lv x ∧ 0 ≤ lv x) ∧ (¬ sh x = -1 → VN 400 m0 (sh x) ∧ 0 ≤ J 7 (sh x) ∧ ρ x = sh x)
theorem VN.z {m0 x : Int} (h : VN 400 m0 x) : 0 ≤ x ∧ x < m0 := by
  have := h.1
  have := h.2
  omega
theorem CRO.gj {m0 m m' : Int} {T sh lv ρ : Int → Int} {J' J : zJ} (h : CRO m0 T sh lv ρ J) (hm : m0 ≤ m) (s : zSU J' J m) : CRO m0 T sh lv ρ J' := ⟨h.1, fun x hx e => by
  obtain ⟨a, b⟩ := h.2 x hx e
  refine ⟨fun w => ?_, fun w => ?_⟩
  · obtain ⟨p, q, r⟩ := a w
    have z := p.z
    exact ⟨p, by rw [(s.1 _ z.1 (by omega)).1]; exact q, r⟩
  · obtain ⟨p, q, r⟩ := b w
    have z := p.z
    exact ⟨p, by rw [(s.1 _ z.1 (by omega)).1]; exact q, r⟩⟩
theorem SLV.e {m0 m : Int} {T sh lv ρ : Int → Int} {J' J : zJ} (h : SLV m0 T sh lv ρ J m) (v : vE 400 m0 J' J) (f : ∀ q, q < 18 → J' q = J q) : SLV m0 T sh lv ρ J' m := ⟨v.1, fun x hx => by
  obtain ⟨a, b, c⟩ := h.2.1 x hx
  obtain ⟨p, q, _, _⟩ := v.2.2 x hx
  exact ⟨(v.2.1 x hx).trans a, p.trans b, q.trans c⟩, fun x hx e w => by
  obtain ⟨_, _, _, r⟩ := v.2.2 x hx
  rw [r] at w ⊢
  exact (h.2.2 x hx e w).of f⟩
theorem nNO.e {m0 : Int} {J' J : zJ} (h : nNO m0 J) (v : vE 400 m0 J' J) : nNO m0 J' := fun x hx => by
  rw [(v.2.2 x hx).2.2.2]; exact h x hx
theorem uo_mk {m0 m1 m2 : Int} {J2 J1 : zJ} (g : GR J2 J1 m1 m2) : ∀ x, uoV J2 x = uoV J1 x := fun x => by
  unfold uoV
  rw [g.2.2.2.2 145 rfl, g.2.2.2.2 146 rfl, g.2.2.2.2 150 rfl]
theorem SLV.made {m0 m1 m2 : Int} {T sh lv ρ : Int → Int} {J2 J1 : zJ} (h : SLV m0 T sh lv ρ J1 m1) (hm : m0 ≤ m1) (hU : UI J1 0 m0 ∨ ∀ x, 0 ≤ x → x < 800 → J1 146 x = J1 145 10 → 0 ≤ J1 149 x ∧ J1 149 x < m1) (g : GR J2 J1 m1 m2) : SLV m0 T sh lv ρ J2 m2 := by
  have e5 := g.2.2.2.2 145 rfl
  have e6 := g.2.2.2.2 146 rfl
  have p : upV J2 = upV J1 := funext fun x => by unfold upV; rw [e5, e6, g.2.2.2.2 147 rfl]
  refine ⟨by rw [p]; exact h.1, fun x hx => ?_, fun x hx e w => ?_⟩
  · obtain ⟨a, b, c⟩ := h.2.1 x hx
    have z := hx.z
    have tx : tm x = x := (tm_m (hx.b (Or.inl rfl))).1.trans (by have := hx.1; omega)
    have s7 : ∀ q, 0 ≤ q → q < m1 → J2 7 q = J1 7 q := fun q a b => (g.2.2.2.1.1 q a b).1
    refine ⟨by rw [p]; exact a, ?_, ?_⟩
    · rw [← b]
      unfold usV
      rw [e5, e6, g.2.2.2.2 148 rfl, tx, s7 x z.1 (by omega)]
    · rw [← c]
      unfold ulV
      rw [e5, e6, g.2.2.2.2 149 rfl]
      by_cases w : J1 146 x = J1 145 10
      · rw [if_pos w, if_pos w]
        have r : 0 ≤ J1 149 x ∧ J1 149 x < m1 := by
          rcases hU with hU | hU
          · have := ((hU x z.1 (hx.b (Or.inl rfl)).2).2 w).2.2.2.1.z
            omega
          · exact hU x z.1 (hx.b (Or.inl rfl)).2 w
        have t9 := g.1
        have q9 := g.2.1.told
        have tx9 : tm (J1 149 x) = J1 149 x := by unfold tm; rw [if_pos (by omega)]
        rw [tx9, s7 _ r.1 r.2]
      · rw [if_neg w, if_neg w, tx, s7 x z.1 (by omega)]
  · rw [uo_mk (m0 := m0) g x] at w ⊢
    exact (h.2.2 x hx e w).gr (g.x (X := []) |>.j ⟨rfl, rfl⟩)
theorem nNO.made {m0 m1 m2 : Int} {J2 J1 : zJ} (h : nNO m0 J1) (g : GR J2 J1 m1 m2) : nNO m0 J2 := fun x hx => by
  rw [uo_mk (m0 := m0) g x]; exact h x hx
theorem uo_up {J : zJ} {x z : Int} (ax : J 146 x = J 145 10) : ∀ y, uoV (zup J 150 x z) y = if y = x then z else uoV J y := fun y => by
  have e : zup J 150 x z 150 y = if y = x then z else J 150 y := rfl
  have e6 : zup J 150 x z 146 = J 146 := rfl
  have e5 : zup J 150 x z 145 = J 145 := rfl
  unfold uoV
  rw [e6, e5, e]
  by_cases w : y = x
  · rw [if_pos w, if_pos w, w, if_pos ax]
  · rw [if_neg w, if_neg w]
theorem SLV.up {m0 m x z : Int} {T sh lv ρ : Int → Int} {J : zJ} (h : SLV m0 T sh lv ρ J m) (ax : J 146 x = J 145 10) (hz : 0 ≤ z → GCj ρ J m x z) : SLV m0 T sh lv ρ (zup J 150 x z) m := by
  have e : ∀ q, q < 18 → zup J 150 x z q = J q := fun q hq => zup_nc (by omega)
  refine ⟨h.1, h.2.1, fun y hy ey w => ?_⟩
  rw [uo_up ax] at w ⊢
  by_cases q : y = x
  · rw [if_pos q] at w ⊢
    rw [q]
    exact (hz w).of e
  · rw [if_neg q] at w ⊢
    exact (h.2.2 y hy ey w).of e
theorem EXK.up5 {m0 : Int} {k : Nat} {F : zJ × Int} {z x : Int} {J : zJ} (ax : J 146 x = J 145 10) (e : EXK (nNO m0) k F z J) : EXK (nNO m0) k F z (zup J 150 x z) := by
  rcases e with q | q | ⟨q1, q2, q3, q4, q5⟩
  · exact Or.inl q
  · exact Or.inr (Or.inl q)
  · exact Or.inr (Or.inr ⟨q1, q2, q3.f (fun c hc => zup_nc (by omega)), q4, fun y hy => by
      rw [uo_up ax]
      split
      · omega
      · exact q5 y hy⟩)
theorem gcj_w {ρ : Int → Int} {J : zJ} {m t x : Int} (hx : 0 ≤ x ∧ x < m) (hv : J 7 x < 0) (e : ρ t = x) : GCj ρ J m t x := ⟨hx, fun J' m' S' g hS E k => by
  have s := g.2.2.2.1.1 x hx.1 hx.2
  have m1 := g.1
  have d : J' 12 x = 1 := ct_d1 g.2.1 ⟨hx.1, by omega⟩ (by rw [s.1]; exact hv)
  have eh := (E.tm g.2.1 g.2.2.1 (t := x) ⟨hx.1, by omega⟩).1
  cases k with
  | zero => exact Or.inr ⟨grO_0f, by omega⟩
  | succ k =>
    rw [grO_s, if_pos hS, e, eh, s.1, if_pos hv]
    exact Or.inl ⟨rfl, by omega⟩⟩
theorem ct_vu {J : zJ} {m a b : Int} (C : CT J m) (ha : 0 ≤ a ∧ a < m) (hb : 0 ≤ b ∧ b < m) (h : J 7 a < 0) (e : J 7 a = J 7 b) : a = b := by
  have ar : arh (J 3) (J 7 a) = 0 := by unfold arh; rw [if_pos h]
  have w := C.ar ha.1 ha.2
  refine isT_u (h := J 7 a) (a := 0) (b := 0) (c := 0) C w.2.2.2 ha hb ⟨rfl, fun y => ?_, fun y => ?_, fun y => ?_⟩ ⟨e.symm, fun y => ?_, fun y => ?_, fun y => ?_⟩ <;> (rw [ar] at y; omega)
theorem exd_w {I : zJ → Prop} {ρ : Int → Int} {k : Nat} {J S J' : zJ} {m t x z : Int} (hG : S 164 21 = 0) (E : A0 J S) (C : CT J m) (hm : J 6 12 = m) (hx : 0 ≤ x ∧ x < m) (hv : 0 ≤ J 7 x) (hk : ¬ k = 0) (er : ρ t = x) (e : EXK I (k - 1 + 1) (gR (fun H i => grO ρ (k - 1) H (H 167 (3 * (0 + x) + i))) S (J 7 x)) z J') : EXK I k (grO ρ k S t) z J' := by
  obtain ⟨k, rfl⟩ : ∃ k', k = k' + 1 := ⟨k - 1, by omega⟩
  rw [grO_s, if_pos hG, er, (E.tm C hm hx).1, if_neg (by omega)]
  exact e
set_option maxHeartbeats 4000000 in
set_option maxRecDepth 100000 in
theorem u_solvedTerm {l : Launch} {G : tb_G} (hl : l.stackTraces = false) (n : Nat) (J : zJ) (x : Int) (lv : Int) (hr_x : -2147483648 ≤ x ∧ x < 2147483648) (hr_lv : -2147483648 ≤ lv ∧ lv < 2147483648) (m0 : Int) (T sh lvv ρ : Int → Int) (t : Int) (d9 : Nat) (hd9 : 4 ≤ d9) (H : ∀ (J : zJ) (x : Int) (hr_x : -2147483648 ≤ x ∧ x < 2147483648) (m : Int) (C : CT J m) (hm : J 6 12 = m) (hU : UI J 0 m) (hm0 : m0 ≤ m) (hx : VN 400 m0 x) (hV : SLV m0 T sh lvv ρ J m) (hC : CRO m0 T sh lvv ρ J) (ax : J 146 x = J 145 10) (rx : T x = x), tz_Ok l G M_X10_solvedClass d9 0 0 [.ref 145, zi x, zi (lv + 1)] n J (zqi (fun z J' => ∃ m', UG J' J m m' ∧ (z = -3 ∨ (0 ≤ z ∧ z < m')) ∧ SLV m0 T sh lvv ρ J' m' ∧ (0 ≤ z → GCj ρ J' m' x z) ∧ ∀ S, S 164 21 = 0 → A0 J S → nNO m0 J → EXK (nNO m0) (7 - (lv + 1)).toNat (grO ρ (7 - (lv + 1)).toNat S x) z J')) zN) (m : Int) (C : CT J m) (hm : J 6 12 = m) (hU : UI J 0 m) (hm0 : m0 ≤ m) (hx : VN 400 m0 x) (hV : SLV m0 T sh lvv ρ J m) (hC : CRO m0 T sh lvv ρ J) (hv : 0 ≤ J 7 x) (er : ρ t = x) (hlv6 : lv ≤ 6) : tz_Ok l G M_X10_solvedTerm (d9 + 1) 0 0 [.ref 145, zi x, zi lv] n J (zqi (fun z J' => ∃ m', UG J' J m m' ∧ (z = -3 ∨ (0 ≤ z ∧ z < m')) ∧ SLV m0 T sh lvv ρ J' m' ∧ (0 ≤ z → GCj ρ J' m' t z) ∧ ∀ S, S 164 21 = 0 → A0 J S → nNO m0 J → EXK (nNO m0) (7 - lv).toNat (grO ρ (7 - lv).toNat S t) z J')) zN := by
  refine tz_Ok.of hl (by decide +kernel) rfl (tb_c1 rfl) (Nat.le_of_ble_eq_true rfl) ?_
  show tz_At l G M_X10_solvedTerm (tb_rm (d9 + 1) 0 0) none (tb_ZM G 0 0 (zQ n 0 (zqi (fun z J' => ∃ m', UG J' J m m' ∧ (z = -3 ∨ (0 ≤ z ∧ z < m')) ∧ SLV m0 T sh lvv ρ J' m' ∧ (0 ≤ z → GCj ρ J' m' t z) ∧ ∀ S, S 164 21 = 0 → A0 J S → nNO m0 J → EXK (nNO m0) (7 - lv).toNat (grO ρ (7 - lv).toNat S t) z J'))) (zX n 0 zN)) 0 0 n J 0 [some (.ref 145), some (zi x), some (zi lv), none, none, none, none] []
  have hb := C.told
  have hz := hx.z
  have ht := (show nd 0 m x from Or.inl (by omega)).ix hb.2
  have tx9 : tm x = x := by unfold tm; rw [if_pos (by omega)]
  have sx9 : sd x = 0 := by unfold sd; rw [if_pos (by omega)]
  have ha := C.ar ht.1 ht.2
  have ha8 := ha
  have t8 : J 8 (tm x) = J 8 x := by rw [tx9]
  have hlv := hr_lv
  refine tz_aload_n (pc := 0) dX10_solvedTerm_0 rfl rfl ?_
  refine tz_fR (pc := 1) dX10_solvedTerm_1 fl_X10_46 r_145_0 ?_
  refine tz_fR (pc := 4) dX10_solvedTerm_4 fl_X10_90 r_6_2 ?_
  refine tz_aload_n (pc := 7) dX10_solvedTerm_7 rfl rfl ?_
  refine tz_iload_n (pc := 8) dX10_solvedTerm_8 rfl rfl ?_
  refine tz_cV (pc := 9) (c_uTerm hl n _ _ (by omega) (by omega)) vl_X10_68 dX10_solvedTerm_9 o_145 rfl rfl (Nat.le_of_ble_eq_true rfl) ⟨(show 0 + 1 ≤ d9 + 1 by omega), (show 8 + (2 + 11) + 40 * (0) ≤ 40 * (d9 + 1) by omega)⟩ rfl rfl (Nat.le_of_ble_eq_true rfl) (Nat.le_of_ble_eq_true rfl) (fun r9 J_9 hq9 => ?_)
  obtain ⟨z_9, rfl, hz_9, rfl, rfl⟩ := hq9
  refine tz_aL (pc := 12) (z := (tm x)) (v := (J 8 (tm x))) dX10_solvedTerm_12 a_8 rfl (by omega) rfl (fun r_12 => ?_)
  refine tz_istore_n (pc := 13) (L2 := [_, _, _, _, _, _, _]) dX10_solvedTerm_13 rfl (by decide) rfl ?_
  refine tz_iload_n (pc := 14) dX10_solvedTerm_14 rfl rfl ?_
  refine tz_iconst (pc := 15) dX10_solvedTerm_15 ?_
  refine tz_icmp_ge (pc := 16) (tgt := 23) dX10_solvedTerm_16 (by decide) (by omega) (by decide) (fun h_16 => ?_) (fun h_16 => ?_)
  · refine tz_aload_n (pc := 23) dX10_solvedTerm_23 rfl rfl ?_
    refine tz_aload_n (pc := 24) dX10_solvedTerm_24 rfl rfl ?_
    refine tz_aload_n (pc := 25) dX10_solvedTerm_25 rfl rfl ?_
    refine tz_iload_n (pc := 26) dX10_solvedTerm_26 rfl rfl ?_
    refine tz_iconst (pc := 27) dX10_solvedTerm_27 ?_
    have s_28 := ((UG.rf C hm hU)).1.2.2.2.1.1 (tm x) ht.1 ht.2
    have c_28 := ((UG.rf C hm hU)).1.1
    refine tz_cV (pc := 28) (u_part hl n _ _ _ (by omega) (by omega) 0 m ((UG.rf C hm hU)).1.2.1 (Or.inl (by omega)) (by rw [s_28.2.1]; omega)) vl_X10_93 dX10_solvedTerm_28 o_145 rfl rfl (Nat.le_of_ble_eq_true rfl) ⟨(show 1 + 1 ≤ d9 + 1 by omega), (show 8 + (3 + 11) + 40 * (1) ≤ 40 * (d9 + 1) by omega)⟩ rfl rfl (Nat.le_of_ble_eq_true rfl) (Nat.le_of_ble_eq_true rfl) (fun r9 J_28 hq9 => ?_)
    obtain ⟨z_28, rfl, hz_28, rfl, n_28, p_28⟩ := hq9
    have k_28 : z_28 = J 9 (x * 3 + 0) := by rw [← p_28, tx9, sx9, ((UG.rf C hm hU)).1.2.2.2.1.2 _ (by omega) (by omega)]; omega
    have a_28 := C.arg hz.1 (show x < m by omega) (i := 0) (by omega) (by omega)
    have v_28 : VN 400 m0 z_28 := by rw [k_28]; exact ⟨by omega, by omega⟩
    have b_31 := ((UG.rf C hm hU)).1.2.1.told
    have r_31 := n_28.rg b_31.2
    refine tz_cV (pc := 31) (u_topM hl n _ _ (by omega) 0 m 400 m0 b_31.2 n_28 ((UG.rf C hm hU)).2.1 hV.1 (Or.inl rfl) v_28) vl_X10_54 dX10_solvedTerm_31 o_145 rfl rfl (Nat.le_of_ble_eq_true rfl) ⟨(show 2 + 1 ≤ d9 + 1 by omega), (show 8 + (4 + 11) + 40 * (2) ≤ 40 * (d9 + 1) by omega)⟩ rfl rfl (Nat.le_of_ble_eq_true rfl) (Nat.le_of_ble_eq_true rfl) (fun r9 J_31 hq9 => ?_)
    obtain ⟨z_31, rfl, hz_31, ⟨u_31, ⟨v_31, w_31⟩, f_31⟩, e_31, t_31⟩ := hq9
    have q_31 := UG.top (UG.rf C hm hU) u_31 f_31
    have y_31 := v_31.z
    have l_31 := hV.e e_31 (fun q hq => f_31 q (by simp [zbut]; omega))
    have o_31 : z_31 = T z_28 := by rw [t_31, (hV.2.1 _ v_28).1]
    have x_31 := hC.1 _ v_28
    rw [← o_31] at x_31
    refine tz_iload_n (pc := 34) dX10_solvedTerm_34 rfl rfl ?_
    refine tz_iconst (pc := 35) dX10_solvedTerm_35 ?_
    refine tz_iadd (pc := 36) (v := lv + 1) dX10_solvedTerm_36 rfl ?_
    refine tz_cV (pc := 37) (H _ _ (by omega) m (q_31).1.2.1 (q_31).1.2.2.1 (q_31).2.1 (by have := (q_31).1.1; omega) x_31.1 l_31 (hC.gj (m' := m) hm0 (q_31).1.2.2.2.1) (by rw [w_31, u_31.2.1]) x_31.2.1) vl_X10_102 dX10_solvedTerm_37 o_145 rfl rfl (Nat.le_of_ble_eq_true rfl) ⟨(show d9 + 1 ≤ d9 + 1 by omega), (show 8 + (4 + 11) + 40 * (d9) ≤ 40 * (d9 + 1) by omega)⟩ rfl rfl (Nat.le_of_ble_eq_true rfl) (Nat.le_of_ble_eq_true rfl) (fun r9 J_37 hq9 => ?_)
    obtain ⟨z_37, rfl, hz_37, m_37, g_37, h_37, l_37, gc_37, ex_37⟩ := hq9
    have q_37 := UG.tr q_31 g_37
    have d_37 := q_37.1.1
    have e_37 := g_37.1.1
    have gg_37 : GX [146, 147, 148, 149, 150, 154] J_37 J m m_37 := GX.tr ((GX.rf ((UG.rf C hm hU)).1.2.1 ((UG.rf C hm hU)).1.2.2.1).off rfl f_31) g_37.1
    have k9_37 : z_28 = J 9 (x * 3 + 0) := by rw [k_28, ((UG.rf C hm hU)).1.2.2.2.1.2 _ (by omega) (by omega)]
    have gv_37 : 0 ≤ z_37 → GCj ρ J_37 m_37 (J 9 (x * 3 + 0)) z_37 := fun q9 => by rw [← k9_37]; exact (gc_37 q9).rr x_31.2.2
    have r_37 : ∀ S, S 164 21 = 0 → A0 J S → nNO m0 J → EXK (nNO m0) ((7 - lv).toNat - 1) ((fun (H : zJ) (i : Int) => grO ρ ((7 - lv).toNat - 1) H (H 167 (3 * (0 + x) + i))) S 0) z_37 J_37 := fun S h9 E9 N9 => by (try dsimp only); rw [(E9.tm ((UG.rf C hm hU)).1.2.1 ((UG.rf C hm hU)).1.2.2.1 (t := x) (by have := ((UG.rf C hm hU)).1.1; omega)).2.2 0 (by decide) (by rw [(((UG.rf C hm hU)).1.2.2.2.1.1 x hz.1 (by omega)).2.1]; omega), ← k9_37, grO_r x_31.2.2, show (7 - lv).toNat - 1 = (7 - (lv + 1)).toNat from by omega]; exact ex_37 S h9 (E9.f (fun c hc => f_31 c (by simp [zbut]; omega))) (N9.e e_31)
    refine tz_istore (pc := 40) (L2 := [_, _, _, _, _, _, _]) dX10_solvedTerm_40 (by decide) rfl ?_
    refine tz_iload_n (pc := 42) dX10_solvedTerm_42 rfl rfl ?_
    refine tz_iconst (pc := 43) dX10_solvedTerm_43 ?_
    refine tz_icmp_ge (pc := 44) (tgt := 51) dX10_solvedTerm_44 (by decide) (by omega) (by decide) (fun h_44 => ?_) (fun h_44 => ?_)
    · refine tz_aload_n (pc := 51) dX10_solvedTerm_51 rfl rfl ?_
      refine tz_aload_n (pc := 52) dX10_solvedTerm_52 rfl rfl ?_
      refine tz_aload_n (pc := 53) dX10_solvedTerm_53 rfl rfl ?_
      refine tz_iload_n (pc := 54) dX10_solvedTerm_54 rfl rfl ?_
      refine tz_iconst (pc := 55) dX10_solvedTerm_55 ?_
      have s_56 := (q_37).1.2.2.2.1.1 (tm x) ht.1 ht.2
      have c_56 := (q_37).1.1
      refine tz_cV (pc := 56) (u_part hl n _ _ _ (by omega) (by omega) 0 m_37 (q_37).1.2.1 (Or.inl (by omega)) (by rw [s_56.2.1]; omega)) vl_X10_93 dX10_solvedTerm_56 o_145 rfl rfl (Nat.le_of_ble_eq_true rfl) ⟨(show 1 + 1 ≤ d9 + 1 by omega), (show 8 + (3 + 11) + 40 * (1) ≤ 40 * (d9 + 1) by omega)⟩ rfl rfl (Nat.le_of_ble_eq_true rfl) (Nat.le_of_ble_eq_true rfl) (fun r9 J_56 hq9 => ?_)
      obtain ⟨z_56, rfl, hz_56, rfl, n_56, p_56⟩ := hq9
      have k_56 : z_56 = J 9 (x * 3 + 1) := by rw [← p_56, tx9, sx9, (q_37).1.2.2.2.1.2 _ (by omega) (by omega)]; omega
      have a_56 := C.arg hz.1 (show x < m by omega) (i := 1) (by omega) (by omega)
      have v_56 : VN 400 m0 z_56 := by rw [k_56]; exact ⟨by omega, by omega⟩
      have b_59 := (q_37).1.2.1.told
      have r_59 := n_56.rg b_59.2
      refine tz_cV (pc := 59) (u_topM hl n _ _ (by omega) 0 m_37 400 m0 b_59.2 n_56 (q_37).2.1 l_37.1 (Or.inl rfl) v_56) vl_X10_54 dX10_solvedTerm_59 o_145 rfl rfl (Nat.le_of_ble_eq_true rfl) ⟨(show 2 + 1 ≤ d9 + 1 by omega), (show 8 + (4 + 11) + 40 * (2) ≤ 40 * (d9 + 1) by omega)⟩ rfl rfl (Nat.le_of_ble_eq_true rfl) (Nat.le_of_ble_eq_true rfl) (fun r9 J_59 hq9 => ?_)
      obtain ⟨z_59, rfl, hz_59, ⟨u_59, ⟨v_59, w_59⟩, f_59⟩, e_59, t_59⟩ := hq9
      have q_59 := UG.top q_37 u_59 f_59
      have y_59 := v_59.z
      have l_59 := l_37.e e_59 (fun q hq => f_59 q (by simp [zbut]; omega))
      have o_59 : z_59 = T z_56 := by rw [t_59, (l_37.2.1 _ v_56).1]
      have x_59 := hC.1 _ v_56
      rw [← o_59] at x_59
      refine tz_iload_n (pc := 62) dX10_solvedTerm_62 rfl rfl ?_
      refine tz_iconst (pc := 63) dX10_solvedTerm_63 ?_
      refine tz_iadd (pc := 64) (v := lv + 1) dX10_solvedTerm_64 rfl ?_
      refine tz_cV (pc := 65) (H _ _ (by omega) m_37 (q_59).1.2.1 (q_59).1.2.2.1 (q_59).2.1 (by have := (q_59).1.1; omega) x_59.1 l_59 (hC.gj (m' := m) hm0 (q_59).1.2.2.2.1) (by rw [w_59, u_59.2.1]) x_59.2.1) vl_X10_102 dX10_solvedTerm_65 o_145 rfl rfl (Nat.le_of_ble_eq_true rfl) ⟨(show d9 + 1 ≤ d9 + 1 by omega), (show 8 + (4 + 11) + 40 * (d9) ≤ 40 * (d9 + 1) by omega)⟩ rfl rfl (Nat.le_of_ble_eq_true rfl) (Nat.le_of_ble_eq_true rfl) (fun r9 J_65 hq9 => ?_)
      obtain ⟨z_65, rfl, hz_65, m_65, g_65, h_65, l_65, gc_65, ex_65⟩ := hq9
      have q_65 := UG.tr q_59 g_65
      have d_65 := q_65.1.1
      have e_65 := g_65.1.1
      have gg_65 : GX [146, 147, 148, 149, 150, 154] J_65 J_37 m_37 m_65 := GX.tr ((GX.rf (q_37).1.2.1 (q_37).1.2.2.1).off rfl f_59) g_65.1
      have k9_65 : z_56 = J_37 9 (x * 3 + 1) := by rw [k_56, (q_37).1.2.2.2.1.2 _ (by omega) (by omega)]
      have gv_65 : 0 ≤ z_65 → GCj ρ J_65 m_65 (J_37 9 (x * 3 + 1)) z_65 := fun q9 => by rw [← k9_65]; exact (gc_65 q9).rr x_59.2.2
      have r_65 : ∀ S, S 164 21 = 0 → A0 J_37 S → nNO m0 J_37 → EXK (nNO m0) ((7 - lv).toNat - 1) ((fun (H : zJ) (i : Int) => grO ρ ((7 - lv).toNat - 1) H (H 167 (3 * (0 + x) + i))) S 1) z_65 J_65 := fun S h9 E9 N9 => by (try dsimp only); rw [(E9.tm (q_37).1.2.1 (q_37).1.2.2.1 (t := x) (by have := (q_37).1.1; omega)).2.2 1 (by decide) (by rw [((q_37).1.2.2.2.1.1 x hz.1 (by omega)).2.1]; omega), ← k9_65, grO_r x_59.2.2, show (7 - lv).toNat - 1 = (7 - (lv + 1)).toNat from by omega]; exact ex_65 S h9 (E9.f (fun c hc => f_59 c (by simp [zbut]; omega))) (N9.e e_59)
      refine tz_istore (pc := 68) (L2 := [_, _, _, _, _, _, _]) dX10_solvedTerm_68 (by decide) rfl ?_
      refine tz_iload_n (pc := 70) dX10_solvedTerm_70 rfl rfl ?_
      refine tz_iconst (pc := 71) dX10_solvedTerm_71 ?_
      refine tz_icmp_ge (pc := 72) (tgt := 79) dX10_solvedTerm_72 (by decide) (by omega) (by decide) (fun h_72 => ?_) (fun h_72 => ?_)
      · refine tz_aload_n (pc := 79) dX10_solvedTerm_79 rfl rfl ?_
        refine tz_aload_n (pc := 80) dX10_solvedTerm_80 rfl rfl ?_
        refine tz_aload_n (pc := 81) dX10_solvedTerm_81 rfl rfl ?_
        refine tz_iload_n (pc := 82) dX10_solvedTerm_82 rfl rfl ?_
        refine tz_iconst (pc := 83) dX10_solvedTerm_83 ?_
        have s_84 := (q_65).1.2.2.2.1.1 (tm x) ht.1 ht.2
        have c_84 := (q_65).1.1
        refine tz_cV (pc := 84) (u_part hl n _ _ _ (by omega) (by omega) 0 m_65 (q_65).1.2.1 (Or.inl (by omega)) (by rw [s_84.2.1]; omega)) vl_X10_93 dX10_solvedTerm_84 o_145 rfl rfl (Nat.le_of_ble_eq_true rfl) ⟨(show 1 + 1 ≤ d9 + 1 by omega), (show 8 + (3 + 11) + 40 * (1) ≤ 40 * (d9 + 1) by omega)⟩ rfl rfl (Nat.le_of_ble_eq_true rfl) (Nat.le_of_ble_eq_true rfl) (fun r9 J_84 hq9 => ?_)
        obtain ⟨z_84, rfl, hz_84, rfl, n_84, p_84⟩ := hq9
        have k_84 : z_84 = J 9 (x * 3 + 2) := by rw [← p_84, tx9, sx9, (q_65).1.2.2.2.1.2 _ (by omega) (by omega)]; omega
        have a_84 := C.arg hz.1 (show x < m by omega) (i := 2) (by omega) (by omega)
        have v_84 : VN 400 m0 z_84 := by rw [k_84]; exact ⟨by omega, by omega⟩
        have b_87 := (q_65).1.2.1.told
        have r_87 := n_84.rg b_87.2
        refine tz_cV (pc := 87) (u_topM hl n _ _ (by omega) 0 m_65 400 m0 b_87.2 n_84 (q_65).2.1 l_65.1 (Or.inl rfl) v_84) vl_X10_54 dX10_solvedTerm_87 o_145 rfl rfl (Nat.le_of_ble_eq_true rfl) ⟨(show 2 + 1 ≤ d9 + 1 by omega), (show 8 + (4 + 11) + 40 * (2) ≤ 40 * (d9 + 1) by omega)⟩ rfl rfl (Nat.le_of_ble_eq_true rfl) (Nat.le_of_ble_eq_true rfl) (fun r9 J_87 hq9 => ?_)
        obtain ⟨z_87, rfl, hz_87, ⟨u_87, ⟨v_87, w_87⟩, f_87⟩, e_87, t_87⟩ := hq9
        have q_87 := UG.top q_65 u_87 f_87
        have y_87 := v_87.z
        have l_87 := l_65.e e_87 (fun q hq => f_87 q (by simp [zbut]; omega))
        have o_87 : z_87 = T z_84 := by rw [t_87, (l_65.2.1 _ v_84).1]
        have x_87 := hC.1 _ v_84
        rw [← o_87] at x_87
        refine tz_iload_n (pc := 90) dX10_solvedTerm_90 rfl rfl ?_
        refine tz_iconst (pc := 91) dX10_solvedTerm_91 ?_
        refine tz_iadd (pc := 92) (v := lv + 1) dX10_solvedTerm_92 rfl ?_
        refine tz_cV (pc := 93) (H _ _ (by omega) m_65 (q_87).1.2.1 (q_87).1.2.2.1 (q_87).2.1 (by have := (q_87).1.1; omega) x_87.1 l_87 (hC.gj (m' := m) hm0 (q_87).1.2.2.2.1) (by rw [w_87, u_87.2.1]) x_87.2.1) vl_X10_102 dX10_solvedTerm_93 o_145 rfl rfl (Nat.le_of_ble_eq_true rfl) ⟨(show d9 + 1 ≤ d9 + 1 by omega), (show 8 + (4 + 11) + 40 * (d9) ≤ 40 * (d9 + 1) by omega)⟩ rfl rfl (Nat.le_of_ble_eq_true rfl) (Nat.le_of_ble_eq_true rfl) (fun r9 J_93 hq9 => ?_)
        obtain ⟨z_93, rfl, hz_93, m_93, g_93, h_93, l_93, gc_93, ex_93⟩ := hq9
        have q_93 := UG.tr q_87 g_93
        have d_93 := q_93.1.1
        have e_93 := g_93.1.1
        have gg_93 : GX [146, 147, 148, 149, 150, 154] J_93 J_65 m_65 m_93 := GX.tr ((GX.rf (q_65).1.2.1 (q_65).1.2.2.1).off rfl f_87) g_93.1
        have k9_93 : z_84 = J_65 9 (x * 3 + 2) := by rw [k_84, (q_65).1.2.2.2.1.2 _ (by omega) (by omega)]
        have gv_93 : 0 ≤ z_93 → GCj ρ J_93 m_93 (J_65 9 (x * 3 + 2)) z_93 := fun q9 => by rw [← k9_93]; exact (gc_93 q9).rr x_87.2.2
        have r_93 : ∀ S, S 164 21 = 0 → A0 J_65 S → nNO m0 J_65 → EXK (nNO m0) ((7 - lv).toNat - 1) ((fun (H : zJ) (i : Int) => grO ρ ((7 - lv).toNat - 1) H (H 167 (3 * (0 + x) + i))) S 2) z_93 J_93 := fun S h9 E9 N9 => by (try dsimp only); rw [(E9.tm (q_65).1.2.1 (q_65).1.2.2.1 (t := x) (by have := (q_65).1.1; omega)).2.2 2 (by decide) (by rw [((q_65).1.2.2.2.1.1 x hz.1 (by omega)).2.1]; omega), ← k9_93, grO_r x_87.2.2, show (7 - lv).toNat - 1 = (7 - (lv + 1)).toNat from by omega]; exact ex_93 S h9 (E9.f (fun c hc => f_87 c (by simp [zbut]; omega))) (N9.e e_87)
        refine tz_istore (pc := 96) (L2 := [_, _, _, _, _, _, _]) dX10_solvedTerm_96 (by decide) rfl ?_
        refine tz_aload_n (pc := 98) dX10_solvedTerm_98 rfl rfl ?_
        refine tz_fR (pc := 99) dX10_solvedTerm_99 fl_X10_46 r_145_0 ?_
        refine tz_aload_n (pc := 102) dX10_solvedTerm_102 rfl rfl ?_
        refine tz_fR (pc := 103) dX10_solvedTerm_103 fl_X10_46 r_145_0 ?_
        refine tz_fR (pc := 106) dX10_solvedTerm_106 fl_X10_84 r_6_1 ?_
        refine tz_aload_n (pc := 109) dX10_solvedTerm_109 rfl rfl ?_
        refine tz_iload_n (pc := 110) dX10_solvedTerm_110 rfl rfl ?_
        refine tz_cV (pc := 111) (c_uTerm hl n _ _ (by omega) (by omega)) vl_X10_68 dX10_solvedTerm_111 o_145 rfl rfl (Nat.le_of_ble_eq_true rfl) ⟨(show 0 + 1 ≤ d9 + 1 by omega), (show 8 + (2 + 11) + 40 * (0) ≤ 40 * (d9 + 1) by omega)⟩ rfl rfl (Nat.le_of_ble_eq_true rfl) (Nat.le_of_ble_eq_true rfl) (fun r9 J_111 hq9 => ?_)
        obtain ⟨z_111, rfl, hz_111, rfl, rfl⟩ := hq9
        refine tz_aL (pc := 114) (z := (tm x)) (v := (J_93 7 (tm x))) dX10_solvedTerm_114 a_7 rfl (by omega) rfl (fun r_114 => ?_)
        refine tz_iload (pc := 115) dX10_solvedTerm_115 rfl ?_
        refine tz_iload (pc := 117) dX10_solvedTerm_117 rfl ?_
        refine tz_iload (pc := 119) dX10_solvedTerm_119 rfl ?_
        have z_9 := (q_93).1.2.1.ar (t := tm x) ht.1 (by have := (q_93).1.1; omega)
        have z_8 := (q_93).1.2.1.told
        have s9 := (q_93).1.2.2.2.1.1 (tm x) ht.1 ht.2
        have m9 := (q_93).1.1
        refine tz_cV (pc := 121) (c_made hl n _ _ _ _ _ (by omega) (by omega) (by omega) (by omega) m_93 (q_93).1.2.1 (q_93).1.2.2.1 (by omega) (ltA_of (by omega) (by omega) (by omega))) vl_X10_108 dX10_solvedTerm_121 o_6 rfl rfl (Nat.le_of_ble_eq_true rfl) ⟨(show 2 + 1 ≤ d9 + 1 by omega), (show 8 + (11 + 11) + 40 * (2) ≤ 40 * (d9 + 1) by omega)⟩ rfl rfl (Nat.le_of_ble_eq_true rfl) (Nat.le_of_ble_eq_true rfl) (fun r9 J_121 hq9 => ?_)
        obtain ⟨z_121, rfl, hz_121, p_121⟩ := hq9
        obtain ⟨m_121, g_121, h_121⟩ := GR.made p_121 (by omega)
        have q_121 := UG.made q_93 g_121
        have l_121 := l_93.made (by omega) (Or.inr (fun y a c e => by have := (((q_93).2.1 y a c).2 (by rw [e])).2.2.2.1.z; exact this)) g_121
        exact tz_iret (pc := 124) (z := z_121) dX10_solvedTerm_124 rfl (Nat.le_of_ble_eq_true rfl) (Nat.le_of_ble_eq_true rfl) ⟨Nat.le_refl _, Nat.le_add_right _ _⟩ ⟨_, rfl, (by omega), ⟨m_121, q_121, h_121, l_121, fun q9 => by have w9 := gcE (X := [146, 147, 148, 149, 150, 154]) ⟨rfl, rfl⟩ C hm ⟨hz.1, (by omega)⟩ hv er (Or.inl ⟨by omega, gg_37, gv_37⟩) (Or.inl ⟨by omega, gg_65, gv_65⟩) (Or.inl ⟨by omega, gg_93, gv_93⟩) (by rw [tx9] at p_121; rw [show J 7 x = J_93 7 x from (((q_93).1.2.2.2.1.1 x hz.1 (by omega)).1).symm]; exact p_121) q9; rw [g_121.2.2.1] at w9; exact w9, fun S hG E N => by exact exd_w hG E C hm ⟨hz.1, (by omega)⟩ hv (by omega) er (gpD (X := [146, 147, 148, 149, 150, 154]) ⟨rfl, rfl⟩ (fun S i h => grO_f h) hG E N C hm (C.ar hz.1 (by omega)).2.2 (C.2.1 x hz.1 (by omega)).1.1.symm (Or.inl ⟨by omega, gg_37, h_37, r_37⟩) (Or.inl ⟨by omega, gg_65, h_65, r_65⟩) (Or.inl ⟨by omega, gg_93, h_93, r_93⟩) (fun N9 => N9.made g_121) (by rw [tx9] at p_121; rw [show J 7 x = J_93 7 x from (((q_93).1.2.2.2.1.1 x hz.1 (by omega)).1).symm]; exact p_121))⟩⟩
      · refine tz_iconst (pc := 75) dX10_solvedTerm_75 ?_
        refine tz_goto (pc := 76) (tgt := 96) dX10_solvedTerm_76 (by decide) ?_
        refine tz_istore (pc := 96) (L2 := [_, _, _, _, _, _, _]) dX10_solvedTerm_96 (by decide) rfl ?_
        refine tz_aload_n (pc := 98) dX10_solvedTerm_98 rfl rfl ?_
        refine tz_fR (pc := 99) dX10_solvedTerm_99 fl_X10_46 r_145_0 ?_
        refine tz_aload_n (pc := 102) dX10_solvedTerm_102 rfl rfl ?_
        refine tz_fR (pc := 103) dX10_solvedTerm_103 fl_X10_46 r_145_0 ?_
        refine tz_fR (pc := 106) dX10_solvedTerm_106 fl_X10_84 r_6_1 ?_
        refine tz_aload_n (pc := 109) dX10_solvedTerm_109 rfl rfl ?_
        refine tz_iload_n (pc := 110) dX10_solvedTerm_110 rfl rfl ?_
        refine tz_cV (pc := 111) (c_uTerm hl n _ _ (by omega) (by omega)) vl_X10_68 dX10_solvedTerm_111 o_145 rfl rfl (Nat.le_of_ble_eq_true rfl) ⟨(show 0 + 1 ≤ d9 + 1 by omega), (show 8 + (2 + 11) + 40 * (0) ≤ 40 * (d9 + 1) by omega)⟩ rfl rfl (Nat.le_of_ble_eq_true rfl) (Nat.le_of_ble_eq_true rfl) (fun r9 J_111 hq9 => ?_)
        obtain ⟨z_111, rfl, hz_111, rfl, rfl⟩ := hq9
        refine tz_aL (pc := 114) (z := (tm x)) (v := (J_65 7 (tm x))) dX10_solvedTerm_114 a_7 rfl (by omega) rfl (fun r_114 => ?_)
        refine tz_iload (pc := 115) dX10_solvedTerm_115 rfl ?_
        refine tz_iload (pc := 117) dX10_solvedTerm_117 rfl ?_
        refine tz_iload (pc := 119) dX10_solvedTerm_119 rfl ?_
        have z_9 := (q_65).1.2.1.ar (t := tm x) ht.1 (by have := (q_65).1.1; omega)
        have z_8 := (q_65).1.2.1.told
        have s9 := (q_65).1.2.2.2.1.1 (tm x) ht.1 ht.2
        have m9 := (q_65).1.1
        refine tz_cV (pc := 121) (c_made hl n _ _ _ _ _ (by omega) (by omega) (by omega) (by omega) m_65 (q_65).1.2.1 (q_65).1.2.2.1 (by omega) (ltA_of (by omega) (by omega) (by omega))) vl_X10_108 dX10_solvedTerm_121 o_6 rfl rfl (Nat.le_of_ble_eq_true rfl) ⟨(show 2 + 1 ≤ d9 + 1 by omega), (show 8 + (11 + 11) + 40 * (2) ≤ 40 * (d9 + 1) by omega)⟩ rfl rfl (Nat.le_of_ble_eq_true rfl) (Nat.le_of_ble_eq_true rfl) (fun r9 J_121 hq9 => ?_)
        obtain ⟨z_121, rfl, hz_121, p_121⟩ := hq9
        obtain ⟨m_121, g_121, h_121⟩ := GR.made p_121 (by omega)
        have q_121 := UG.made q_65 g_121
        have l_121 := l_65.made (by omega) (Or.inr (fun y a c e => by have := (((q_65).2.1 y a c).2 (by rw [e])).2.2.2.1.z; exact this)) g_121
        exact tz_iret (pc := 124) (z := z_121) dX10_solvedTerm_124 rfl (Nat.le_of_ble_eq_true rfl) (Nat.le_of_ble_eq_true rfl) ⟨Nat.le_refl _, Nat.le_add_right _ _⟩ ⟨_, rfl, (by omega), ⟨m_121, q_121, h_121, l_121, fun q9 => by have w9 := gcE (X := [146, 147, 148, 149, 150, 154]) ⟨rfl, rfl⟩ C hm ⟨hz.1, (by omega)⟩ hv er (Or.inl ⟨by omega, gg_37, gv_37⟩) (Or.inl ⟨by omega, gg_65, gv_65⟩) (Or.inr ⟨by omega, rfl, rfl⟩) (by rw [tx9] at p_121; rw [show J 7 x = J_65 7 x from (((q_65).1.2.2.2.1.1 x hz.1 (by omega)).1).symm]; exact p_121) q9; rw [g_121.2.2.1] at w9; exact w9, fun S hG E N => by exact exd_w hG E C hm ⟨hz.1, (by omega)⟩ hv (by omega) er (gpD (X := [146, 147, 148, 149, 150, 154]) ⟨rfl, rfl⟩ (fun S i h => grO_f h) hG E N C hm (C.ar hz.1 (by omega)).2.2 (C.2.1 x hz.1 (by omega)).1.1.symm (Or.inl ⟨by omega, gg_37, h_37, r_37⟩) (Or.inl ⟨by omega, gg_65, h_65, r_65⟩) (Or.inr ⟨by omega, rfl, rfl⟩) (fun N9 => N9.made g_121) (by rw [tx9] at p_121; rw [show J 7 x = J_65 7 x from (((q_65).1.2.2.2.1.1 x hz.1 (by omega)).1).symm]; exact p_121))⟩⟩
    · refine tz_iconst (pc := 47) dX10_solvedTerm_47 ?_
      refine tz_goto (pc := 48) (tgt := 68) dX10_solvedTerm_48 (by decide) ?_
      refine tz_istore (pc := 68) (L2 := [_, _, _, _, _, _, _]) dX10_solvedTerm_68 (by decide) rfl ?_
      refine tz_iload_n (pc := 70) dX10_solvedTerm_70 rfl rfl ?_
      refine tz_iconst (pc := 71) dX10_solvedTerm_71 ?_
      refine tz_icmp_ge (pc := 72) (tgt := 79) dX10_solvedTerm_72 (by decide) (by omega) (by decide) (fun h_72 => ?_) (fun h_72 => ?_)
      · refine tz_aload_n (pc := 79) dX10_solvedTerm_79 rfl rfl ?_
        refine tz_aload_n (pc := 80) dX10_solvedTerm_80 rfl rfl ?_
        refine tz_aload_n (pc := 81) dX10_solvedTerm_81 rfl rfl ?_
        refine tz_iload_n (pc := 82) dX10_solvedTerm_82 rfl rfl ?_
        refine tz_iconst (pc := 83) dX10_solvedTerm_83 ?_
        have s_84 := (q_37).1.2.2.2.1.1 (tm x) ht.1 ht.2
        have c_84 := (q_37).1.1
        refine tz_cV (pc := 84) (u_part hl n _ _ _ (by omega) (by omega) 0 m_37 (q_37).1.2.1 (Or.inl (by omega)) (by rw [s_84.2.1]; omega)) vl_X10_93 dX10_solvedTerm_84 o_145 rfl rfl (Nat.le_of_ble_eq_true rfl) ⟨(show 1 + 1 ≤ d9 + 1 by omega), (show 8 + (3 + 11) + 40 * (1) ≤ 40 * (d9 + 1) by omega)⟩ rfl rfl (Nat.le_of_ble_eq_true rfl) (Nat.le_of_ble_eq_true rfl) (fun r9 J_84 hq9 => ?_)
        obtain ⟨z_84, rfl, hz_84, rfl, n_84, p_84⟩ := hq9
        have k_84 : z_84 = J 9 (x * 3 + 2) := by rw [← p_84, tx9, sx9, (q_37).1.2.2.2.1.2 _ (by omega) (by omega)]; omega
        have a_84 := C.arg hz.1 (show x < m by omega) (i := 2) (by omega) (by omega)
        have v_84 : VN 400 m0 z_84 := by rw [k_84]; exact ⟨by omega, by omega⟩
        have b_87 := (q_37).1.2.1.told
        have r_87 := n_84.rg b_87.2
        refine tz_cV (pc := 87) (u_topM hl n _ _ (by omega) 0 m_37 400 m0 b_87.2 n_84 (q_37).2.1 l_37.1 (Or.inl rfl) v_84) vl_X10_54 dX10_solvedTerm_87 o_145 rfl rfl (Nat.le_of_ble_eq_true rfl) ⟨(show 2 + 1 ≤ d9 + 1 by omega), (show 8 + (4 + 11) + 40 * (2) ≤ 40 * (d9 + 1) by omega)⟩ rfl rfl (Nat.le_of_ble_eq_true rfl) (Nat.le_of_ble_eq_true rfl) (fun r9 J_87 hq9 => ?_)
        obtain ⟨z_87, rfl, hz_87, ⟨u_87, ⟨v_87, w_87⟩, f_87⟩, e_87, t_87⟩ := hq9
        have q_87 := UG.top q_37 u_87 f_87
        have y_87 := v_87.z
        have l_87 := l_37.e e_87 (fun q hq => f_87 q (by simp [zbut]; omega))
        have o_87 : z_87 = T z_84 := by rw [t_87, (l_37.2.1 _ v_84).1]
        have x_87 := hC.1 _ v_84
        rw [← o_87] at x_87
        refine tz_iload_n (pc := 90) dX10_solvedTerm_90 rfl rfl ?_
        refine tz_iconst (pc := 91) dX10_solvedTerm_91 ?_
        refine tz_iadd (pc := 92) (v := lv + 1) dX10_solvedTerm_92 rfl ?_
        refine tz_cV (pc := 93) (H _ _ (by omega) m_37 (q_87).1.2.1 (q_87).1.2.2.1 (q_87).2.1 (by have := (q_87).1.1; omega) x_87.1 l_87 (hC.gj (m' := m) hm0 (q_87).1.2.2.2.1) (by rw [w_87, u_87.2.1]) x_87.2.1) vl_X10_102 dX10_solvedTerm_93 o_145 rfl rfl (Nat.le_of_ble_eq_true rfl) ⟨(show d9 + 1 ≤ d9 + 1 by omega), (show 8 + (4 + 11) + 40 * (d9) ≤ 40 * (d9 + 1) by omega)⟩ rfl rfl (Nat.le_of_ble_eq_true rfl) (Nat.le_of_ble_eq_true rfl) (fun r9 J_93 hq9 => ?_)
        obtain ⟨z_93, rfl, hz_93, m_93, g_93, h_93, l_93, gc_93, ex_93⟩ := hq9
        have q_93 := UG.tr q_87 g_93
        have d_93 := q_93.1.1
        have e_93 := g_93.1.1
        have gg_93 : GX [146, 147, 148, 149, 150, 154] J_93 J_37 m_37 m_93 := GX.tr ((GX.rf (q_37).1.2.1 (q_37).1.2.2.1).off rfl f_87) g_93.1
        have k9_93 : z_84 = J_37 9 (x * 3 + 2) := by rw [k_84, (q_37).1.2.2.2.1.2 _ (by omega) (by omega)]
        have gv_93 : 0 ≤ z_93 → GCj ρ J_93 m_93 (J_37 9 (x * 3 + 2)) z_93 := fun q9 => by rw [← k9_93]; exact (gc_93 q9).rr x_87.2.2
        have r_93 : ∀ S, S 164 21 = 0 → A0 J_37 S → nNO m0 J_37 → EXK (nNO m0) ((7 - lv).toNat - 1) ((fun (H : zJ) (i : Int) => grO ρ ((7 - lv).toNat - 1) H (H 167 (3 * (0 + x) + i))) S 2) z_93 J_93 := fun S h9 E9 N9 => by (try dsimp only); rw [(E9.tm (q_37).1.2.1 (q_37).1.2.2.1 (t := x) (by have := (q_37).1.1; omega)).2.2 2 (by decide) (by rw [((q_37).1.2.2.2.1.1 x hz.1 (by omega)).2.1]; omega), ← k9_93, grO_r x_87.2.2, show (7 - lv).toNat - 1 = (7 - (lv + 1)).toNat from by omega]; exact ex_93 S h9 (E9.f (fun c hc => f_87 c (by simp [zbut]; omega))) (N9.e e_87)
        refine tz_istore (pc := 96) (L2 := [_, _, _, _, _, _, _]) dX10_solvedTerm_96 (by decide) rfl ?_
        refine tz_aload_n (pc := 98) dX10_solvedTerm_98 rfl rfl ?_
        refine tz_fR (pc := 99) dX10_solvedTerm_99 fl_X10_46 r_145_0 ?_
        refine tz_aload_n (pc := 102) dX10_solvedTerm_102 rfl rfl ?_
        refine tz_fR (pc := 103) dX10_solvedTerm_103 fl_X10_46 r_145_0 ?_
        refine tz_fR (pc := 106) dX10_solvedTerm_106 fl_X10_84 r_6_1 ?_
        refine tz_aload_n (pc := 109) dX10_solvedTerm_109 rfl rfl ?_
        refine tz_iload_n (pc := 110) dX10_solvedTerm_110 rfl rfl ?_
        refine tz_cV (pc := 111) (c_uTerm hl n _ _ (by omega) (by omega)) vl_X10_68 dX10_solvedTerm_111 o_145 rfl rfl (Nat.le_of_ble_eq_true rfl) ⟨(show 0 + 1 ≤ d9 + 1 by omega), (show 8 + (2 + 11) + 40 * (0) ≤ 40 * (d9 + 1) by omega)⟩ rfl rfl (Nat.le_of_ble_eq_true rfl) (Nat.le_of_ble_eq_true rfl) (fun r9 J_111 hq9 => ?_)
        obtain ⟨z_111, rfl, hz_111, rfl, rfl⟩ := hq9
        refine tz_aL (pc := 114) (z := (tm x)) (v := (J_93 7 (tm x))) dX10_solvedTerm_114 a_7 rfl (by omega) rfl (fun r_114 => ?_)
        refine tz_iload (pc := 115) dX10_solvedTerm_115 rfl ?_
        refine tz_iload (pc := 117) dX10_solvedTerm_117 rfl ?_
        refine tz_iload (pc := 119) dX10_solvedTerm_119 rfl ?_
        have z_9 := (q_93).1.2.1.ar (t := tm x) ht.1 (by have := (q_93).1.1; omega)
        have z_8 := (q_93).1.2.1.told
        have s9 := (q_93).1.2.2.2.1.1 (tm x) ht.1 ht.2
        have m9 := (q_93).1.1
        refine tz_cV (pc := 121) (c_made hl n _ _ _ _ _ (by omega) (by omega) (by omega) (by omega) m_93 (q_93).1.2.1 (q_93).1.2.2.1 (by omega) (ltA_of (by omega) (by omega) (by omega))) vl_X10_108 dX10_solvedTerm_121 o_6 rfl rfl (Nat.le_of_ble_eq_true rfl) ⟨(show 2 + 1 ≤ d9 + 1 by omega), (show 8 + (11 + 11) + 40 * (2) ≤ 40 * (d9 + 1) by omega)⟩ rfl rfl (Nat.le_of_ble_eq_true rfl) (Nat.le_of_ble_eq_true rfl) (fun r9 J_121 hq9 => ?_)
        obtain ⟨z_121, rfl, hz_121, p_121⟩ := hq9
        obtain ⟨m_121, g_121, h_121⟩ := GR.made p_121 (by omega)
        have q_121 := UG.made q_93 g_121
        have l_121 := l_93.made (by omega) (Or.inr (fun y a c e => by have := (((q_93).2.1 y a c).2 (by rw [e])).2.2.2.1.z; exact this)) g_121
        exact tz_iret (pc := 124) (z := z_121) dX10_solvedTerm_124 rfl (Nat.le_of_ble_eq_true rfl) (Nat.le_of_ble_eq_true rfl) ⟨Nat.le_refl _, Nat.le_add_right _ _⟩ ⟨_, rfl, (by omega), ⟨m_121, q_121, h_121, l_121, fun q9 => by have w9 := gcE (X := [146, 147, 148, 149, 150, 154]) ⟨rfl, rfl⟩ C hm ⟨hz.1, (by omega)⟩ hv er (Or.inl ⟨by omega, gg_37, gv_37⟩) (Or.inr ⟨by omega, rfl, rfl⟩) (Or.inl ⟨by omega, gg_93, gv_93⟩) (by rw [tx9] at p_121; rw [show J 7 x = J_93 7 x from (((q_93).1.2.2.2.1.1 x hz.1 (by omega)).1).symm]; exact p_121) q9; rw [g_121.2.2.1] at w9; exact w9, fun S hG E N => by exact exd_w hG E C hm ⟨hz.1, (by omega)⟩ hv (by omega) er (gpD (X := [146, 147, 148, 149, 150, 154]) ⟨rfl, rfl⟩ (fun S i h => grO_f h) hG E N C hm (C.ar hz.1 (by omega)).2.2 (C.2.1 x hz.1 (by omega)).1.1.symm (Or.inl ⟨by omega, gg_37, h_37, r_37⟩) (Or.inr ⟨by omega, rfl, rfl⟩) (Or.inl ⟨by omega, gg_93, h_93, r_93⟩) (fun N9 => N9.made g_121) (by rw [tx9] at p_121; rw [show J 7 x = J_93 7 x from (((q_93).1.2.2.2.1.1 x hz.1 (by omega)).1).symm]; exact p_121))⟩⟩
      · refine tz_iconst (pc := 75) dX10_solvedTerm_75 ?_
        refine tz_goto (pc := 76) (tgt := 96) dX10_solvedTerm_76 (by decide) ?_
        refine tz_istore (pc := 96) (L2 := [_, _, _, _, _, _, _]) dX10_solvedTerm_96 (by decide) rfl ?_
        refine tz_aload_n (pc := 98) dX10_solvedTerm_98 rfl rfl ?_
        refine tz_fR (pc := 99) dX10_solvedTerm_99 fl_X10_46 r_145_0 ?_
        refine tz_aload_n (pc := 102) dX10_solvedTerm_102 rfl rfl ?_
        refine tz_fR (pc := 103) dX10_solvedTerm_103 fl_X10_46 r_145_0 ?_
        refine tz_fR (pc := 106) dX10_solvedTerm_106 fl_X10_84 r_6_1 ?_
        refine tz_aload_n (pc := 109) dX10_solvedTerm_109 rfl rfl ?_
        refine tz_iload_n (pc := 110) dX10_solvedTerm_110 rfl rfl ?_
        refine tz_cV (pc := 111) (c_uTerm hl n _ _ (by omega) (by omega)) vl_X10_68 dX10_solvedTerm_111 o_145 rfl rfl (Nat.le_of_ble_eq_true rfl) ⟨(show 0 + 1 ≤ d9 + 1 by omega), (show 8 + (2 + 11) + 40 * (0) ≤ 40 * (d9 + 1) by omega)⟩ rfl rfl (Nat.le_of_ble_eq_true rfl) (Nat.le_of_ble_eq_true rfl) (fun r9 J_111 hq9 => ?_)
        obtain ⟨z_111, rfl, hz_111, rfl, rfl⟩ := hq9
        refine tz_aL (pc := 114) (z := (tm x)) (v := (J_37 7 (tm x))) dX10_solvedTerm_114 a_7 rfl (by omega) rfl (fun r_114 => ?_)
        refine tz_iload (pc := 115) dX10_solvedTerm_115 rfl ?_
        refine tz_iload (pc := 117) dX10_solvedTerm_117 rfl ?_
        refine tz_iload (pc := 119) dX10_solvedTerm_119 rfl ?_
        have z_9 := (q_37).1.2.1.ar (t := tm x) ht.1 (by have := (q_37).1.1; omega)
        have z_8 := (q_37).1.2.1.told
        have s9 := (q_37).1.2.2.2.1.1 (tm x) ht.1 ht.2
        have m9 := (q_37).1.1
        refine tz_cV (pc := 121) (c_made hl n _ _ _ _ _ (by omega) (by omega) (by omega) (by omega) m_37 (q_37).1.2.1 (q_37).1.2.2.1 (by omega) (ltA_of (by omega) (by omega) (by omega))) vl_X10_108 dX10_solvedTerm_121 o_6 rfl rfl (Nat.le_of_ble_eq_true rfl) ⟨(show 2 + 1 ≤ d9 + 1 by omega), (show 8 + (11 + 11) + 40 * (2) ≤ 40 * (d9 + 1) by omega)⟩ rfl rfl (Nat.le_of_ble_eq_true rfl) (Nat.le_of_ble_eq_true rfl) (fun r9 J_121 hq9 => ?_)
        obtain ⟨z_121, rfl, hz_121, p_121⟩ := hq9
        obtain ⟨m_121, g_121, h_121⟩ := GR.made p_121 (by omega)
        have q_121 := UG.made q_37 g_121
        have l_121 := l_37.made (by omega) (Or.inr (fun y a c e => by have := (((q_37).2.1 y a c).2 (by rw [e])).2.2.2.1.z; exact this)) g_121
        exact tz_iret (pc := 124) (z := z_121) dX10_solvedTerm_124 rfl (Nat.le_of_ble_eq_true rfl) (Nat.le_of_ble_eq_true rfl) ⟨Nat.le_refl _, Nat.le_add_right _ _⟩ ⟨_, rfl, (by omega), ⟨m_121, q_121, h_121, l_121, fun q9 => by have w9 := gcE (X := [146, 147, 148, 149, 150, 154]) ⟨rfl, rfl⟩ C hm ⟨hz.1, (by omega)⟩ hv er (Or.inl ⟨by omega, gg_37, gv_37⟩) (Or.inr ⟨by omega, rfl, rfl⟩) (Or.inr ⟨by omega, rfl, rfl⟩) (by rw [tx9] at p_121; rw [show J 7 x = J_37 7 x from (((q_37).1.2.2.2.1.1 x hz.1 (by omega)).1).symm]; exact p_121) q9; rw [g_121.2.2.1] at w9; exact w9, fun S hG E N => by exact exd_w hG E C hm ⟨hz.1, (by omega)⟩ hv (by omega) er (gpD (X := [146, 147, 148, 149, 150, 154]) ⟨rfl, rfl⟩ (fun S i h => grO_f h) hG E N C hm (C.ar hz.1 (by omega)).2.2 (C.2.1 x hz.1 (by omega)).1.1.symm (Or.inl ⟨by omega, gg_37, h_37, r_37⟩) (Or.inr ⟨by omega, rfl, rfl⟩) (Or.inr ⟨by omega, rfl, rfl⟩) (fun N9 => N9.made g_121) (by rw [tx9] at p_121; rw [show J 7 x = J_37 7 x from (((q_37).1.2.2.2.1.1 x hz.1 (by omega)).1).symm]; exact p_121))⟩⟩
  · refine tz_iconst (pc := 19) dX10_solvedTerm_19 ?_
    refine tz_goto (pc := 20) (tgt := 40) dX10_solvedTerm_20 (by decide) ?_
    refine tz_istore (pc := 40) (L2 := [_, _, _, _, _, _, _]) dX10_solvedTerm_40 (by decide) rfl ?_
    refine tz_iload_n (pc := 42) dX10_solvedTerm_42 rfl rfl ?_
    refine tz_iconst (pc := 43) dX10_solvedTerm_43 ?_
    refine tz_icmp_ge (pc := 44) (tgt := 51) dX10_solvedTerm_44 (by decide) (by omega) (by decide) (fun h_44 => ?_) (fun h_44 => ?_)
    · refine tz_aload_n (pc := 51) dX10_solvedTerm_51 rfl rfl ?_
      refine tz_aload_n (pc := 52) dX10_solvedTerm_52 rfl rfl ?_
      refine tz_aload_n (pc := 53) dX10_solvedTerm_53 rfl rfl ?_
      refine tz_iload_n (pc := 54) dX10_solvedTerm_54 rfl rfl ?_
      refine tz_iconst (pc := 55) dX10_solvedTerm_55 ?_
      have s_56 := ((UG.rf C hm hU)).1.2.2.2.1.1 (tm x) ht.1 ht.2
      have c_56 := ((UG.rf C hm hU)).1.1
      refine tz_cV (pc := 56) (u_part hl n _ _ _ (by omega) (by omega) 0 m ((UG.rf C hm hU)).1.2.1 (Or.inl (by omega)) (by rw [s_56.2.1]; omega)) vl_X10_93 dX10_solvedTerm_56 o_145 rfl rfl (Nat.le_of_ble_eq_true rfl) ⟨(show 1 + 1 ≤ d9 + 1 by omega), (show 8 + (3 + 11) + 40 * (1) ≤ 40 * (d9 + 1) by omega)⟩ rfl rfl (Nat.le_of_ble_eq_true rfl) (Nat.le_of_ble_eq_true rfl) (fun r9 J_56 hq9 => ?_)
      obtain ⟨z_56, rfl, hz_56, rfl, n_56, p_56⟩ := hq9
      have k_56 : z_56 = J 9 (x * 3 + 1) := by rw [← p_56, tx9, sx9, ((UG.rf C hm hU)).1.2.2.2.1.2 _ (by omega) (by omega)]; omega
      have a_56 := C.arg hz.1 (show x < m by omega) (i := 1) (by omega) (by omega)
      have v_56 : VN 400 m0 z_56 := by rw [k_56]; exact ⟨by omega, by omega⟩
      have b_59 := ((UG.rf C hm hU)).1.2.1.told
      have r_59 := n_56.rg b_59.2
      refine tz_cV (pc := 59) (u_topM hl n _ _ (by omega) 0 m 400 m0 b_59.2 n_56 ((UG.rf C hm hU)).2.1 hV.1 (Or.inl rfl) v_56) vl_X10_54 dX10_solvedTerm_59 o_145 rfl rfl (Nat.le_of_ble_eq_true rfl) ⟨(show 2 + 1 ≤ d9 + 1 by omega), (show 8 + (4 + 11) + 40 * (2) ≤ 40 * (d9 + 1) by omega)⟩ rfl rfl (Nat.le_of_ble_eq_true rfl) (Nat.le_of_ble_eq_true rfl) (fun r9 J_59 hq9 => ?_)
      obtain ⟨z_59, rfl, hz_59, ⟨u_59, ⟨v_59, w_59⟩, f_59⟩, e_59, t_59⟩ := hq9
      have q_59 := UG.top (UG.rf C hm hU) u_59 f_59
      have y_59 := v_59.z
      have l_59 := hV.e e_59 (fun q hq => f_59 q (by simp [zbut]; omega))
      have o_59 : z_59 = T z_56 := by rw [t_59, (hV.2.1 _ v_56).1]
      have x_59 := hC.1 _ v_56
      rw [← o_59] at x_59
      refine tz_iload_n (pc := 62) dX10_solvedTerm_62 rfl rfl ?_
      refine tz_iconst (pc := 63) dX10_solvedTerm_63 ?_
      refine tz_iadd (pc := 64) (v := lv + 1) dX10_solvedTerm_64 rfl ?_
      refine tz_cV (pc := 65) (H _ _ (by omega) m (q_59).1.2.1 (q_59).1.2.2.1 (q_59).2.1 (by have := (q_59).1.1; omega) x_59.1 l_59 (hC.gj (m' := m) hm0 (q_59).1.2.2.2.1) (by rw [w_59, u_59.2.1]) x_59.2.1) vl_X10_102 dX10_solvedTerm_65 o_145 rfl rfl (Nat.le_of_ble_eq_true rfl) ⟨(show d9 + 1 ≤ d9 + 1 by omega), (show 8 + (4 + 11) + 40 * (d9) ≤ 40 * (d9 + 1) by omega)⟩ rfl rfl (Nat.le_of_ble_eq_true rfl) (Nat.le_of_ble_eq_true rfl) (fun r9 J_65 hq9 => ?_)
      obtain ⟨z_65, rfl, hz_65, m_65, g_65, h_65, l_65, gc_65, ex_65⟩ := hq9
      have q_65 := UG.tr q_59 g_65
      have d_65 := q_65.1.1
      have e_65 := g_65.1.1
      have gg_65 : GX [146, 147, 148, 149, 150, 154] J_65 J m m_65 := GX.tr ((GX.rf ((UG.rf C hm hU)).1.2.1 ((UG.rf C hm hU)).1.2.2.1).off rfl f_59) g_65.1
      have k9_65 : z_56 = J 9 (x * 3 + 1) := by rw [k_56, ((UG.rf C hm hU)).1.2.2.2.1.2 _ (by omega) (by omega)]
      have gv_65 : 0 ≤ z_65 → GCj ρ J_65 m_65 (J 9 (x * 3 + 1)) z_65 := fun q9 => by rw [← k9_65]; exact (gc_65 q9).rr x_59.2.2
      have r_65 : ∀ S, S 164 21 = 0 → A0 J S → nNO m0 J → EXK (nNO m0) ((7 - lv).toNat - 1) ((fun (H : zJ) (i : Int) => grO ρ ((7 - lv).toNat - 1) H (H 167 (3 * (0 + x) + i))) S 1) z_65 J_65 := fun S h9 E9 N9 => by (try dsimp only); rw [(E9.tm ((UG.rf C hm hU)).1.2.1 ((UG.rf C hm hU)).1.2.2.1 (t := x) (by have := ((UG.rf C hm hU)).1.1; omega)).2.2 1 (by decide) (by rw [(((UG.rf C hm hU)).1.2.2.2.1.1 x hz.1 (by omega)).2.1]; omega), ← k9_65, grO_r x_59.2.2, show (7 - lv).toNat - 1 = (7 - (lv + 1)).toNat from by omega]; exact ex_65 S h9 (E9.f (fun c hc => f_59 c (by simp [zbut]; omega))) (N9.e e_59)
      refine tz_istore (pc := 68) (L2 := [_, _, _, _, _, _, _]) dX10_solvedTerm_68 (by decide) rfl ?_
      refine tz_iload_n (pc := 70) dX10_solvedTerm_70 rfl rfl ?_
      refine tz_iconst (pc := 71) dX10_solvedTerm_71 ?_
      refine tz_icmp_ge (pc := 72) (tgt := 79) dX10_solvedTerm_72 (by decide) (by omega) (by decide) (fun h_72 => ?_) (fun h_72 => ?_)
      · refine tz_aload_n (pc := 79) dX10_solvedTerm_79 rfl rfl ?_
        refine tz_aload_n (pc := 80) dX10_solvedTerm_80 rfl rfl ?_
        refine tz_aload_n (pc := 81) dX10_solvedTerm_81 rfl rfl ?_
        refine tz_iload_n (pc := 82) dX10_solvedTerm_82 rfl rfl ?_
        refine tz_iconst (pc := 83) dX10_solvedTerm_83 ?_
        have s_84 := (q_65).1.2.2.2.1.1 (tm x) ht.1 ht.2
        have c_84 := (q_65).1.1
        refine tz_cV (pc := 84) (u_part hl n _ _ _ (by omega) (by omega) 0 m_65 (q_65).1.2.1 (Or.inl (by omega)) (by rw [s_84.2.1]; omega)) vl_X10_93 dX10_solvedTerm_84 o_145 rfl rfl (Nat.le_of_ble_eq_true rfl) ⟨(show 1 + 1 ≤ d9 + 1 by omega), (show 8 + (3 + 11) + 40 * (1) ≤ 40 * (d9 + 1) by omega)⟩ rfl rfl (Nat.le_of_ble_eq_true rfl) (Nat.le_of_ble_eq_true rfl) (fun r9 J_84 hq9 => ?_)
        obtain ⟨z_84, rfl, hz_84, rfl, n_84, p_84⟩ := hq9
        have k_84 : z_84 = J 9 (x * 3 + 2) := by rw [← p_84, tx9, sx9, (q_65).1.2.2.2.1.2 _ (by omega) (by omega)]; omega
        have a_84 := C.arg hz.1 (show x < m by omega) (i := 2) (by omega) (by omega)
        have v_84 : VN 400 m0 z_84 := by rw [k_84]; exact ⟨by omega, by omega⟩
        have b_87 := (q_65).1.2.1.told
        have r_87 := n_84.rg b_87.2
        refine tz_cV (pc := 87) (u_topM hl n _ _ (by omega) 0 m_65 400 m0 b_87.2 n_84 (q_65).2.1 l_65.1 (Or.inl rfl) v_84) vl_X10_54 dX10_solvedTerm_87 o_145 rfl rfl (Nat.le_of_ble_eq_true rfl) ⟨(show 2 + 1 ≤ d9 + 1 by omega), (show 8 + (4 + 11) + 40 * (2) ≤ 40 * (d9 + 1) by omega)⟩ rfl rfl (Nat.le_of_ble_eq_true rfl) (Nat.le_of_ble_eq_true rfl) (fun r9 J_87 hq9 => ?_)
        obtain ⟨z_87, rfl, hz_87, ⟨u_87, ⟨v_87, w_87⟩, f_87⟩, e_87, t_87⟩ := hq9
        have q_87 := UG.top q_65 u_87 f_87
        have y_87 := v_87.z
        have l_87 := l_65.e e_87 (fun q hq => f_87 q (by simp [zbut]; omega))
        have o_87 : z_87 = T z_84 := by rw [t_87, (l_65.2.1 _ v_84).1]
        have x_87 := hC.1 _ v_84
        rw [← o_87] at x_87
        refine tz_iload_n (pc := 90) dX10_solvedTerm_90 rfl rfl ?_
        refine tz_iconst (pc := 91) dX10_solvedTerm_91 ?_
        refine tz_iadd (pc := 92) (v := lv + 1) dX10_solvedTerm_92 rfl ?_
        refine tz_cV (pc := 93) (H _ _ (by omega) m_65 (q_87).1.2.1 (q_87).1.2.2.1 (q_87).2.1 (by have := (q_87).1.1; omega) x_87.1 l_87 (hC.gj (m' := m) hm0 (q_87).1.2.2.2.1) (by rw [w_87, u_87.2.1]) x_87.2.1) vl_X10_102 dX10_solvedTerm_93 o_145 rfl rfl (Nat.le_of_ble_eq_true rfl) ⟨(show d9 + 1 ≤ d9 + 1 by omega), (show 8 + (4 + 11) + 40 * (d9) ≤ 40 * (d9 + 1) by omega)⟩ rfl rfl (Nat.le_of_ble_eq_true rfl) (Nat.le_of_ble_eq_true rfl) (fun r9 J_93 hq9 => ?_)
        obtain ⟨z_93, rfl, hz_93, m_93, g_93, h_93, l_93, gc_93, ex_93⟩ := hq9
        have q_93 := UG.tr q_87 g_93
        have d_93 := q_93.1.1
        have e_93 := g_93.1.1
        have gg_93 : GX [146, 147, 148, 149, 150, 154] J_93 J_65 m_65 m_93 := GX.tr ((GX.rf (q_65).1.2.1 (q_65).1.2.2.1).off rfl f_87) g_93.1
        have k9_93 : z_84 = J_65 9 (x * 3 + 2) := by rw [k_84, (q_65).1.2.2.2.1.2 _ (by omega) (by omega)]
        have gv_93 : 0 ≤ z_93 → GCj ρ J_93 m_93 (J_65 9 (x * 3 + 2)) z_93 := fun q9 => by rw [← k9_93]; exact (gc_93 q9).rr x_87.2.2
        have r_93 : ∀ S, S 164 21 = 0 → A0 J_65 S → nNO m0 J_65 → EXK (nNO m0) ((7 - lv).toNat - 1) ((fun (H : zJ) (i : Int) => grO ρ ((7 - lv).toNat - 1) H (H 167 (3 * (0 + x) + i))) S 2) z_93 J_93 := fun S h9 E9 N9 => by (try dsimp only); rw [(E9.tm (q_65).1.2.1 (q_65).1.2.2.1 (t := x) (by have := (q_65).1.1; omega)).2.2 2 (by decide) (by rw [((q_65).1.2.2.2.1.1 x hz.1 (by omega)).2.1]; omega), ← k9_93, grO_r x_87.2.2, show (7 - lv).toNat - 1 = (7 - (lv + 1)).toNat from by omega]; exact ex_93 S h9 (E9.f (fun c hc => f_87 c (by simp [zbut]; omega))) (N9.e e_87)
        refine tz_istore (pc := 96) (L2 := [_, _, _, _, _, _, _]) dX10_solvedTerm_96 (by decide) rfl ?_
        refine tz_aload_n (pc := 98) dX10_solvedTerm_98 rfl rfl ?_
        refine tz_fR (pc := 99) dX10_solvedTerm_99 fl_X10_46 r_145_0 ?_
        refine tz_aload_n (pc := 102) dX10_solvedTerm_102 rfl rfl ?_
        refine tz_fR (pc := 103) dX10_solvedTerm_103 fl_X10_46 r_145_0 ?_
        refine tz_fR (pc := 106) dX10_solvedTerm_106 fl_X10_84 r_6_1 ?_
        refine tz_aload_n (pc := 109) dX10_solvedTerm_109 rfl rfl ?_
        refine tz_iload_n (pc := 110) dX10_solvedTerm_110 rfl rfl ?_
        refine tz_cV (pc := 111) (c_uTerm hl n _ _ (by omega) (by omega)) vl_X10_68 dX10_solvedTerm_111 o_145 rfl rfl (Nat.le_of_ble_eq_true rfl) ⟨(show 0 + 1 ≤ d9 + 1 by omega), (show 8 + (2 + 11) + 40 * (0) ≤ 40 * (d9 + 1) by omega)⟩ rfl rfl (Nat.le_of_ble_eq_true rfl) (Nat.le_of_ble_eq_true rfl) (fun r9 J_111 hq9 => ?_)
        obtain ⟨z_111, rfl, hz_111, rfl, rfl⟩ := hq9
        refine tz_aL (pc := 114) (z := (tm x)) (v := (J_93 7 (tm x))) dX10_solvedTerm_114 a_7 rfl (by omega) rfl (fun r_114 => ?_)
        refine tz_iload (pc := 115) dX10_solvedTerm_115 rfl ?_
        refine tz_iload (pc := 117) dX10_solvedTerm_117 rfl ?_
        refine tz_iload (pc := 119) dX10_solvedTerm_119 rfl ?_
        have z_9 := (q_93).1.2.1.ar (t := tm x) ht.1 (by have := (q_93).1.1; omega)
        have z_8 := (q_93).1.2.1.told
        have s9 := (q_93).1.2.2.2.1.1 (tm x) ht.1 ht.2
        have m9 := (q_93).1.1
        refine tz_cV (pc := 121) (c_made hl n _ _ _ _ _ (by omega) (by omega) (by omega) (by omega) m_93 (q_93).1.2.1 (q_93).1.2.2.1 (by omega) (ltA_of (by omega) (by omega) (by omega))) vl_X10_108 dX10_solvedTerm_121 o_6 rfl rfl (Nat.le_of_ble_eq_true rfl) ⟨(show 2 + 1 ≤ d9 + 1 by omega), (show 8 + (11 + 11) + 40 * (2) ≤ 40 * (d9 + 1) by omega)⟩ rfl rfl (Nat.le_of_ble_eq_true rfl) (Nat.le_of_ble_eq_true rfl) (fun r9 J_121 hq9 => ?_)
        obtain ⟨z_121, rfl, hz_121, p_121⟩ := hq9
        obtain ⟨m_121, g_121, h_121⟩ := GR.made p_121 (by omega)
        have q_121 := UG.made q_93 g_121
        have l_121 := l_93.made (by omega) (Or.inr (fun y a c e => by have := (((q_93).2.1 y a c).2 (by rw [e])).2.2.2.1.z; exact this)) g_121
        exact tz_iret (pc := 124) (z := z_121) dX10_solvedTerm_124 rfl (Nat.le_of_ble_eq_true rfl) (Nat.le_of_ble_eq_true rfl) ⟨Nat.le_refl _, Nat.le_add_right _ _⟩ ⟨_, rfl, (by omega), ⟨m_121, q_121, h_121, l_121, fun q9 => by have w9 := gcE (X := [146, 147, 148, 149, 150, 154]) ⟨rfl, rfl⟩ C hm ⟨hz.1, (by omega)⟩ hv er (Or.inr ⟨by omega, rfl, rfl⟩) (Or.inl ⟨by omega, gg_65, gv_65⟩) (Or.inl ⟨by omega, gg_93, gv_93⟩) (by rw [tx9] at p_121; rw [show J 7 x = J_93 7 x from (((q_93).1.2.2.2.1.1 x hz.1 (by omega)).1).symm]; exact p_121) q9; rw [g_121.2.2.1] at w9; exact w9, fun S hG E N => by exact exd_w hG E C hm ⟨hz.1, (by omega)⟩ hv (by omega) er (gpD (X := [146, 147, 148, 149, 150, 154]) ⟨rfl, rfl⟩ (fun S i h => grO_f h) hG E N C hm (C.ar hz.1 (by omega)).2.2 (C.2.1 x hz.1 (by omega)).1.1.symm (Or.inr ⟨by omega, rfl, rfl⟩) (Or.inl ⟨by omega, gg_65, h_65, r_65⟩) (Or.inl ⟨by omega, gg_93, h_93, r_93⟩) (fun N9 => N9.made g_121) (by rw [tx9] at p_121; rw [show J 7 x = J_93 7 x from (((q_93).1.2.2.2.1.1 x hz.1 (by omega)).1).symm]; exact p_121))⟩⟩
      · refine tz_iconst (pc := 75) dX10_solvedTerm_75 ?_
        refine tz_goto (pc := 76) (tgt := 96) dX10_solvedTerm_76 (by decide) ?_
        refine tz_istore (pc := 96) (L2 := [_, _, _, _, _, _, _]) dX10_solvedTerm_96 (by decide) rfl ?_
        refine tz_aload_n (pc := 98) dX10_solvedTerm_98 rfl rfl ?_
        refine tz_fR (pc := 99) dX10_solvedTerm_99 fl_X10_46 r_145_0 ?_
        refine tz_aload_n (pc := 102) dX10_solvedTerm_102 rfl rfl ?_
        refine tz_fR (pc := 103) dX10_solvedTerm_103 fl_X10_46 r_145_0 ?_
        refine tz_fR (pc := 106) dX10_solvedTerm_106 fl_X10_84 r_6_1 ?_
        refine tz_aload_n (pc := 109) dX10_solvedTerm_109 rfl rfl ?_
        refine tz_iload_n (pc := 110) dX10_solvedTerm_110 rfl rfl ?_
        refine tz_cV (pc := 111) (c_uTerm hl n _ _ (by omega) (by omega)) vl_X10_68 dX10_solvedTerm_111 o_145 rfl rfl (Nat.le_of_ble_eq_true rfl) ⟨(show 0 + 1 ≤ d9 + 1 by omega), (show 8 + (2 + 11) + 40 * (0) ≤ 40 * (d9 + 1) by omega)⟩ rfl rfl (Nat.le_of_ble_eq_true rfl) (Nat.le_of_ble_eq_true rfl) (fun r9 J_111 hq9 => ?_)
        obtain ⟨z_111, rfl, hz_111, rfl, rfl⟩ := hq9
        refine tz_aL (pc := 114) (z := (tm x)) (v := (J_65 7 (tm x))) dX10_solvedTerm_114 a_7 rfl (by omega) rfl (fun r_114 => ?_)
        refine tz_iload (pc := 115) dX10_solvedTerm_115 rfl ?_
        refine tz_iload (pc := 117) dX10_solvedTerm_117 rfl ?_
        refine tz_iload (pc := 119) dX10_solvedTerm_119 rfl ?_
        have z_9 := (q_65).1.2.1.ar (t := tm x) ht.1 (by have := (q_65).1.1; omega)
        have z_8 := (q_65).1.2.1.told
        have s9 := (q_65).1.2.2.2.1.1 (tm x) ht.1 ht.2
        have m9 := (q_65).1.1
        refine tz_cV (pc := 121) (c_made hl n _ _ _ _ _ (by omega) (by omega) (by omega) (by omega) m_65 (q_65).1.2.1 (q_65).1.2.2.1 (by omega) (ltA_of (by omega) (by omega) (by omega))) vl_X10_108 dX10_solvedTerm_121 o_6 rfl rfl (Nat.le_of_ble_eq_true rfl) ⟨(show 2 + 1 ≤ d9 + 1 by omega), (show 8 + (11 + 11) + 40 * (2) ≤ 40 * (d9 + 1) by omega)⟩ rfl rfl (Nat.le_of_ble_eq_true rfl) (Nat.le_of_ble_eq_true rfl) (fun r9 J_121 hq9 => ?_)
        obtain ⟨z_121, rfl, hz_121, p_121⟩ := hq9
        obtain ⟨m_121, g_121, h_121⟩ := GR.made p_121 (by omega)
        have q_121 := UG.made q_65 g_121
        have l_121 := l_65.made (by omega) (Or.inr (fun y a c e => by have := (((q_65).2.1 y a c).2 (by rw [e])).2.2.2.1.z; exact this)) g_121
        exact tz_iret (pc := 124) (z := z_121) dX10_solvedTerm_124 rfl (Nat.le_of_ble_eq_true rfl) (Nat.le_of_ble_eq_true rfl) ⟨Nat.le_refl _, Nat.le_add_right _ _⟩ ⟨_, rfl, (by omega), ⟨m_121, q_121, h_121, l_121, fun q9 => by have w9 := gcE (X := [146, 147, 148, 149, 150, 154]) ⟨rfl, rfl⟩ C hm ⟨hz.1, (by omega)⟩ hv er (Or.inr ⟨by omega, rfl, rfl⟩) (Or.inl ⟨by omega, gg_65, gv_65⟩) (Or.inr ⟨by omega, rfl, rfl⟩) (by rw [tx9] at p_121; rw [show J 7 x = J_65 7 x from (((q_65).1.2.2.2.1.1 x hz.1 (by omega)).1).symm]; exact p_121) q9; rw [g_121.2.2.1] at w9; exact w9, fun S hG E N => by exact exd_w hG E C hm ⟨hz.1, (by omega)⟩ hv (by omega) er (gpD (X := [146, 147, 148, 149, 150, 154]) ⟨rfl, rfl⟩ (fun S i h => grO_f h) hG E N C hm (C.ar hz.1 (by omega)).2.2 (C.2.1 x hz.1 (by omega)).1.1.symm (Or.inr ⟨by omega, rfl, rfl⟩) (Or.inl ⟨by omega, gg_65, h_65, r_65⟩) (Or.inr ⟨by omega, rfl, rfl⟩) (fun N9 => N9.made g_121) (by rw [tx9] at p_121; rw [show J 7 x = J_65 7 x from (((q_65).1.2.2.2.1.1 x hz.1 (by omega)).1).symm]; exact p_121))⟩⟩
    · refine tz_iconst (pc := 47) dX10_solvedTerm_47 ?_
      refine tz_goto (pc := 48) (tgt := 68) dX10_solvedTerm_48 (by decide) ?_
      refine tz_istore (pc := 68) (L2 := [_, _, _, _, _, _, _]) dX10_solvedTerm_68 (by decide) rfl ?_
      refine tz_iload_n (pc := 70) dX10_solvedTerm_70 rfl rfl ?_
      refine tz_iconst (pc := 71) dX10_solvedTerm_71 ?_
      refine tz_icmp_ge (pc := 72) (tgt := 79) dX10_solvedTerm_72 (by decide) (by omega) (by decide) (fun h_72 => ?_) (fun h_72 => ?_)
      · refine tz_aload_n (pc := 79) dX10_solvedTerm_79 rfl rfl ?_
        refine tz_aload_n (pc := 80) dX10_solvedTerm_80 rfl rfl ?_
        refine tz_aload_n (pc := 81) dX10_solvedTerm_81 rfl rfl ?_
        refine tz_iload_n (pc := 82) dX10_solvedTerm_82 rfl rfl ?_
        refine tz_iconst (pc := 83) dX10_solvedTerm_83 ?_
        have s_84 := ((UG.rf C hm hU)).1.2.2.2.1.1 (tm x) ht.1 ht.2
        have c_84 := ((UG.rf C hm hU)).1.1
        refine tz_cV (pc := 84) (u_part hl n _ _ _ (by omega) (by omega) 0 m ((UG.rf C hm hU)).1.2.1 (Or.inl (by omega)) (by rw [s_84.2.1]; omega)) vl_X10_93 dX10_solvedTerm_84 o_145 rfl rfl (Nat.le_of_ble_eq_true rfl) ⟨(show 1 + 1 ≤ d9 + 1 by omega), (show 8 + (3 + 11) + 40 * (1) ≤ 40 * (d9 + 1) by omega)⟩ rfl rfl (Nat.le_of_ble_eq_true rfl) (Nat.le_of_ble_eq_true rfl) (fun r9 J_84 hq9 => ?_)
        obtain ⟨z_84, rfl, hz_84, rfl, n_84, p_84⟩ := hq9
        have k_84 : z_84 = J 9 (x * 3 + 2) := by rw [← p_84, tx9, sx9, ((UG.rf C hm hU)).1.2.2.2.1.2 _ (by omega) (by omega)]; omega
        have a_84 := C.arg hz.1 (show x < m by omega) (i := 2) (by omega) (by omega)
        have v_84 : VN 400 m0 z_84 := by rw [k_84]; exact ⟨by omega, by omega⟩
        have b_87 := ((UG.rf C hm hU)).1.2.1.told
        have r_87 := n_84.rg b_87.2
        refine tz_cV (pc := 87) (u_topM hl n _ _ (by omega) 0 m 400 m0 b_87.2 n_84 ((UG.rf C hm hU)).2.1 hV.1 (Or.inl rfl) v_84) vl_X10_54 dX10_solvedTerm_87 o_145 rfl rfl (Nat.le_of_ble_eq_true rfl) ⟨(show 2 + 1 ≤ d9 + 1 by omega), (show 8 + (4 + 11) + 40 * (2) ≤ 40 * (d9 + 1) by omega)⟩ rfl rfl (Nat.le_of_ble_eq_true rfl) (Nat.le_of_ble_eq_true rfl) (fun r9 J_87 hq9 => ?_)
        obtain ⟨z_87, rfl, hz_87, ⟨u_87, ⟨v_87, w_87⟩, f_87⟩, e_87, t_87⟩ := hq9
        have q_87 := UG.top (UG.rf C hm hU) u_87 f_87
        have y_87 := v_87.z
        have l_87 := hV.e e_87 (fun q hq => f_87 q (by simp [zbut]; omega))
        have o_87 : z_87 = T z_84 := by rw [t_87, (hV.2.1 _ v_84).1]
        have x_87 := hC.1 _ v_84
        rw [← o_87] at x_87
        refine tz_iload_n (pc := 90) dX10_solvedTerm_90 rfl rfl ?_
        refine tz_iconst (pc := 91) dX10_solvedTerm_91 ?_
        refine tz_iadd (pc := 92) (v := lv + 1) dX10_solvedTerm_92 rfl ?_
        refine tz_cV (pc := 93) (H _ _ (by omega) m (q_87).1.2.1 (q_87).1.2.2.1 (q_87).2.1 (by have := (q_87).1.1; omega) x_87.1 l_87 (hC.gj (m' := m) hm0 (q_87).1.2.2.2.1) (by rw [w_87, u_87.2.1]) x_87.2.1) vl_X10_102 dX10_solvedTerm_93 o_145 rfl rfl (Nat.le_of_ble_eq_true rfl) ⟨(show d9 + 1 ≤ d9 + 1 by omega), (show 8 + (4 + 11) + 40 * (d9) ≤ 40 * (d9 + 1) by omega)⟩ rfl rfl (Nat.le_of_ble_eq_true rfl) (Nat.le_of_ble_eq_true rfl) (fun r9 J_93 hq9 => ?_)
        obtain ⟨z_93, rfl, hz_93, m_93, g_93, h_93, l_93, gc_93, ex_93⟩ := hq9
        have q_93 := UG.tr q_87 g_93
        have d_93 := q_93.1.1
        have e_93 := g_93.1.1
        have gg_93 : GX [146, 147, 148, 149, 150, 154] J_93 J m m_93 := GX.tr ((GX.rf ((UG.rf C hm hU)).1.2.1 ((UG.rf C hm hU)).1.2.2.1).off rfl f_87) g_93.1
        have k9_93 : z_84 = J 9 (x * 3 + 2) := by rw [k_84, ((UG.rf C hm hU)).1.2.2.2.1.2 _ (by omega) (by omega)]
        have gv_93 : 0 ≤ z_93 → GCj ρ J_93 m_93 (J 9 (x * 3 + 2)) z_93 := fun q9 => by rw [← k9_93]; exact (gc_93 q9).rr x_87.2.2
        have r_93 : ∀ S, S 164 21 = 0 → A0 J S → nNO m0 J → EXK (nNO m0) ((7 - lv).toNat - 1) ((fun (H : zJ) (i : Int) => grO ρ ((7 - lv).toNat - 1) H (H 167 (3 * (0 + x) + i))) S 2) z_93 J_93 := fun S h9 E9 N9 => by (try dsimp only); rw [(E9.tm ((UG.rf C hm hU)).1.2.1 ((UG.rf C hm hU)).1.2.2.1 (t := x) (by have := ((UG.rf C hm hU)).1.1; omega)).2.2 2 (by decide) (by rw [(((UG.rf C hm hU)).1.2.2.2.1.1 x hz.1 (by omega)).2.1]; omega), ← k9_93, grO_r x_87.2.2, show (7 - lv).toNat - 1 = (7 - (lv + 1)).toNat from by omega]; exact ex_93 S h9 (E9.f (fun c hc => f_87 c (by simp [zbut]; omega))) (N9.e e_87)
        refine tz_istore (pc := 96) (L2 := [_, _, _, _, _, _, _]) dX10_solvedTerm_96 (by decide) rfl ?_
        refine tz_aload_n (pc := 98) dX10_solvedTerm_98 rfl rfl ?_
        refine tz_fR (pc := 99) dX10_solvedTerm_99 fl_X10_46 r_145_0 ?_
        refine tz_aload_n (pc := 102) dX10_solvedTerm_102 rfl rfl ?_
        refine tz_fR (pc := 103) dX10_solvedTerm_103 fl_X10_46 r_145_0 ?_
        refine tz_fR (pc := 106) dX10_solvedTerm_106 fl_X10_84 r_6_1 ?_
        refine tz_aload_n (pc := 109) dX10_solvedTerm_109 rfl rfl ?_
        refine tz_iload_n (pc := 110) dX10_solvedTerm_110 rfl rfl ?_
        refine tz_cV (pc := 111) (c_uTerm hl n _ _ (by omega) (by omega)) vl_X10_68 dX10_solvedTerm_111 o_145 rfl rfl (Nat.le_of_ble_eq_true rfl) ⟨(show 0 + 1 ≤ d9 + 1 by omega), (show 8 + (2 + 11) + 40 * (0) ≤ 40 * (d9 + 1) by omega)⟩ rfl rfl (Nat.le_of_ble_eq_true rfl) (Nat.le_of_ble_eq_true rfl) (fun r9 J_111 hq9 => ?_)
        obtain ⟨z_111, rfl, hz_111, rfl, rfl⟩ := hq9
        refine tz_aL (pc := 114) (z := (tm x)) (v := (J_93 7 (tm x))) dX10_solvedTerm_114 a_7 rfl (by omega) rfl (fun r_114 => ?_)
        refine tz_iload (pc := 115) dX10_solvedTerm_115 rfl ?_
        refine tz_iload (pc := 117) dX10_solvedTerm_117 rfl ?_
        refine tz_iload (pc := 119) dX10_solvedTerm_119 rfl ?_
        have z_9 := (q_93).1.2.1.ar (t := tm x) ht.1 (by have := (q_93).1.1; omega)
        have z_8 := (q_93).1.2.1.told
        have s9 := (q_93).1.2.2.2.1.1 (tm x) ht.1 ht.2
        have m9 := (q_93).1.1
        refine tz_cV (pc := 121) (c_made hl n _ _ _ _ _ (by omega) (by omega) (by omega) (by omega) m_93 (q_93).1.2.1 (q_93).1.2.2.1 (by omega) (ltA_of (by omega) (by omega) (by omega))) vl_X10_108 dX10_solvedTerm_121 o_6 rfl rfl (Nat.le_of_ble_eq_true rfl) ⟨(show 2 + 1 ≤ d9 + 1 by omega), (show 8 + (11 + 11) + 40 * (2) ≤ 40 * (d9 + 1) by omega)⟩ rfl rfl (Nat.le_of_ble_eq_true rfl) (Nat.le_of_ble_eq_true rfl) (fun r9 J_121 hq9 => ?_)
        obtain ⟨z_121, rfl, hz_121, p_121⟩ := hq9
        obtain ⟨m_121, g_121, h_121⟩ := GR.made p_121 (by omega)
        have q_121 := UG.made q_93 g_121
        have l_121 := l_93.made (by omega) (Or.inr (fun y a c e => by have := (((q_93).2.1 y a c).2 (by rw [e])).2.2.2.1.z; exact this)) g_121
        exact tz_iret (pc := 124) (z := z_121) dX10_solvedTerm_124 rfl (Nat.le_of_ble_eq_true rfl) (Nat.le_of_ble_eq_true rfl) ⟨Nat.le_refl _, Nat.le_add_right _ _⟩ ⟨_, rfl, (by omega), ⟨m_121, q_121, h_121, l_121, fun q9 => by have w9 := gcE (X := [146, 147, 148, 149, 150, 154]) ⟨rfl, rfl⟩ C hm ⟨hz.1, (by omega)⟩ hv er (Or.inr ⟨by omega, rfl, rfl⟩) (Or.inr ⟨by omega, rfl, rfl⟩) (Or.inl ⟨by omega, gg_93, gv_93⟩) (by rw [tx9] at p_121; rw [show J 7 x = J_93 7 x from (((q_93).1.2.2.2.1.1 x hz.1 (by omega)).1).symm]; exact p_121) q9; rw [g_121.2.2.1] at w9; exact w9, fun S hG E N => by exact exd_w hG E C hm ⟨hz.1, (by omega)⟩ hv (by omega) er (gpD (X := [146, 147, 148, 149, 150, 154]) ⟨rfl, rfl⟩ (fun S i h => grO_f h) hG E N C hm (C.ar hz.1 (by omega)).2.2 (C.2.1 x hz.1 (by omega)).1.1.symm (Or.inr ⟨by omega, rfl, rfl⟩) (Or.inr ⟨by omega, rfl, rfl⟩) (Or.inl ⟨by omega, gg_93, h_93, r_93⟩) (fun N9 => N9.made g_121) (by rw [tx9] at p_121; rw [show J 7 x = J_93 7 x from (((q_93).1.2.2.2.1.1 x hz.1 (by omega)).1).symm]; exact p_121))⟩⟩
      · refine tz_iconst (pc := 75) dX10_solvedTerm_75 ?_
        refine tz_goto (pc := 76) (tgt := 96) dX10_solvedTerm_76 (by decide) ?_
        refine tz_istore (pc := 96) (L2 := [_, _, _, _, _, _, _]) dX10_solvedTerm_96 (by decide) rfl ?_
        refine tz_aload_n (pc := 98) dX10_solvedTerm_98 rfl rfl ?_
        refine tz_fR (pc := 99) dX10_solvedTerm_99 fl_X10_46 r_145_0 ?_
        refine tz_aload_n (pc := 102) dX10_solvedTerm_102 rfl rfl ?_
        refine tz_fR (pc := 103) dX10_solvedTerm_103 fl_X10_46 r_145_0 ?_
        refine tz_fR (pc := 106) dX10_solvedTerm_106 fl_X10_84 r_6_1 ?_
        refine tz_aload_n (pc := 109) dX10_solvedTerm_109 rfl rfl ?_
        refine tz_iload_n (pc := 110) dX10_solvedTerm_110 rfl rfl ?_
        refine tz_cV (pc := 111) (c_uTerm hl n _ _ (by omega) (by omega)) vl_X10_68 dX10_solvedTerm_111 o_145 rfl rfl (Nat.le_of_ble_eq_true rfl) ⟨(show 0 + 1 ≤ d9 + 1 by omega), (show 8 + (2 + 11) + 40 * (0) ≤ 40 * (d9 + 1) by omega)⟩ rfl rfl (Nat.le_of_ble_eq_true rfl) (Nat.le_of_ble_eq_true rfl) (fun r9 J_111 hq9 => ?_)
        obtain ⟨z_111, rfl, hz_111, rfl, rfl⟩ := hq9
        refine tz_aL (pc := 114) (z := (tm x)) (v := (J 7 (tm x))) dX10_solvedTerm_114 a_7 rfl (by omega) rfl (fun r_114 => ?_)
        refine tz_iload (pc := 115) dX10_solvedTerm_115 rfl ?_
        refine tz_iload (pc := 117) dX10_solvedTerm_117 rfl ?_
        refine tz_iload (pc := 119) dX10_solvedTerm_119 rfl ?_
        have z_9 := ((UG.rf C hm hU)).1.2.1.ar (t := tm x) ht.1 (by have := ((UG.rf C hm hU)).1.1; omega)
        have z_8 := ((UG.rf C hm hU)).1.2.1.told
        have s9 := ((UG.rf C hm hU)).1.2.2.2.1.1 (tm x) ht.1 ht.2
        have m9 := ((UG.rf C hm hU)).1.1
        refine tz_cV (pc := 121) (c_made hl n _ _ _ _ _ (by omega) (by omega) (by omega) (by omega) m ((UG.rf C hm hU)).1.2.1 ((UG.rf C hm hU)).1.2.2.1 (by omega) (ltA_of (by omega) (by omega) (by omega))) vl_X10_108 dX10_solvedTerm_121 o_6 rfl rfl (Nat.le_of_ble_eq_true rfl) ⟨(show 2 + 1 ≤ d9 + 1 by omega), (show 8 + (11 + 11) + 40 * (2) ≤ 40 * (d9 + 1) by omega)⟩ rfl rfl (Nat.le_of_ble_eq_true rfl) (Nat.le_of_ble_eq_true rfl) (fun r9 J_121 hq9 => ?_)
        obtain ⟨z_121, rfl, hz_121, p_121⟩ := hq9
        obtain ⟨m_121, g_121, h_121⟩ := GR.made p_121 (by omega)
        have q_121 := UG.made (UG.rf C hm hU) g_121
        have l_121 := hV.made (by omega) (Or.inr (fun y a c e => by have := ((((UG.rf C hm hU)).2.1 y a c).2 (by rw [e])).2.2.2.1.z; exact this)) g_121
        exact tz_iret (pc := 124) (z := z_121) dX10_solvedTerm_124 rfl (Nat.le_of_ble_eq_true rfl) (Nat.le_of_ble_eq_true rfl) ⟨Nat.le_refl _, Nat.le_add_right _ _⟩ ⟨_, rfl, (by omega), ⟨m_121, q_121, h_121, l_121, fun q9 => by have w9 := gcE (X := [146, 147, 148, 149, 150, 154]) ⟨rfl, rfl⟩ C hm ⟨hz.1, (by omega)⟩ hv er (Or.inr ⟨by omega, rfl, rfl⟩) (Or.inr ⟨by omega, rfl, rfl⟩) (Or.inr ⟨by omega, rfl, rfl⟩) (by rw [tx9] at p_121; rw [show J 7 x = J 7 x from ((((UG.rf C hm hU)).1.2.2.2.1.1 x hz.1 (by omega)).1).symm]; exact p_121) q9; rw [g_121.2.2.1] at w9; exact w9, fun S hG E N => by exact exd_w hG E C hm ⟨hz.1, (by omega)⟩ hv (by omega) er (gpD (X := [146, 147, 148, 149, 150, 154]) ⟨rfl, rfl⟩ (fun S i h => grO_f h) hG E N C hm (C.ar hz.1 (by omega)).2.2 (C.2.1 x hz.1 (by omega)).1.1.symm (Or.inr ⟨by omega, rfl, rfl⟩) (Or.inr ⟨by omega, rfl, rfl⟩) (Or.inr ⟨by omega, rfl, rfl⟩) (fun N9 => N9.made g_121) (by rw [tx9] at p_121; rw [show J 7 x = J 7 x from ((((UG.rf C hm hU)).1.2.2.2.1.1 x hz.1 (by omega)).1).symm]; exact p_121))⟩⟩

set_option maxHeartbeats 4000000 in
set_option maxRecDepth 100000 in
theorem u_solvedClass {l : Launch} {G : tb_G} (hl : l.stackTraces = false) (n : Nat) : ∀ (r9 : Nat) (J : zJ) (x : Int) (lv : Int) (hr_x : -2147483648 ≤ x ∧ x < 2147483648) (hr_lv : -2147483648 ≤ lv ∧ lv < 2147483648) (m0 : Int) (T sh lvv ρ : Int → Int) (m : Int) (C : CT J m) (hm : J 6 12 = m) (hU : UI J 0 m) (hm0 : m0 ≤ m) (hx : VN 400 m0 x) (hV : SLV m0 T sh lvv ρ J m) (hC : CRO m0 T sh lvv ρ J) (ax : J 146 x = J 145 10) (rx : T x = x), ((7 - lv).toNat) < r9 → tz_Ok l G M_X10_solvedClass (6 + 2 * r9) 0 0 [.ref 145, zi x, zi lv] n J (zqi (fun z J' => ∃ m', UG J' J m m' ∧ (z = -3 ∨ (0 ≤ z ∧ z < m')) ∧ SLV m0 T sh lvv ρ J' m' ∧ (0 ≤ z → GCj ρ J' m' x z) ∧ ∀ S, S 164 21 = 0 → A0 J S → nNO m0 J → EXK (nNO m0) (7 - lv).toNat (grO ρ (7 - lv).toNat S x) z J')) zN := by
  intro r9
  induction r9 with
  | zero => intro J x lv hr_x hr_lv m0 T sh lvv ρ m C hm hU hm0 hx hV hC ax rx hm9; exact absurd hm9 (Nat.not_lt_zero _)
  | succ r9 ih =>
    intro J x lv hr_x hr_lv m0 T sh lvv ρ m C hm hU hm0 hx hV hC ax rx hm9
    refine tz_Ok.of hl (by decide +kernel) rfl (tb_c1 rfl) (Nat.le_of_ble_eq_true rfl) ?_
    show tz_At l G M_X10_solvedClass (tb_rm (6 + 2 * (r9 + 1)) 0 0) none (tb_ZM G 0 0 (zQ n 0 (zqi (fun z J' => ∃ m', UG J' J m m' ∧ (z = -3 ∨ (0 ≤ z ∧ z < m')) ∧ SLV m0 T sh lvv ρ J' m' ∧ (0 ≤ z → GCj ρ J' m' x z) ∧ ∀ S, S 164 21 = 0 → A0 J S → nNO m0 J → EXK (nNO m0) (7 - lv).toNat (grO ρ (7 - lv).toNat S x) z J'))) (zX n 0 zN)) 0 0 n J 0 [some (.ref 145), some (zi x), some (zi lv), none] []
    have hb := C.told
    have hz := hx.z
    have hx9 := (UW.rf hU).at hb.2 (Or.inl (show 0 ≤ x ∧ x < m by omega)) ax
    have hl9 := hx9.2.2.2.1.z
    have hs9 := hx9.2.2.2.2
    have ho9 : J 148 x = -1 ∨ (0 ≤ J 148 x ∧ J 148 x < m) := hx9.2.2.1.imp id (fun q => q.z)
    have sh9 : J 148 x = sh x := by rw [← (hV.2.1 x hx).2.1]; unfold usV; rw [if_pos ax]
    refine tz_iload_n (pc := 0) dX10_solvedClass_0 rfl rfl ?_
    refine tz_bipush (pc := 1) dX10_solvedClass_1 (by decide) ?_
    refine tz_icmp_le (pc := 3) (tgt := 9) dX10_solvedClass_3 (by decide) (by omega) (by decide) (fun h_3 => ?_) (fun h_3 => ?_)
    · refine tz_aload_n (pc := 9) dX10_solvedClass_9 rfl rfl ?_
      refine tz_fR (pc := 10) dX10_solvedClass_10 fl_X10_24 r_145_5 ?_
      refine tz_iload_n (pc := 13) dX10_solvedClass_13 rfl rfl ?_
      refine tz_aL (pc := 14) (z := x) (v := (J 150 x)) dX10_solvedClass_14 a_150 rfl (by omega) rfl (fun r_14 => ?_)
      refine tz_iconst (pc := 15) dX10_solvedClass_15 ?_
      refine tz_icmp_ne (pc := 16) (tgt := 52) dX10_solvedClass_16 (by decide) (by omega) (by decide) (fun h_16 => ?_) (fun h_16 => ?_)
      · refine tz_aload_n (pc := 52) dX10_solvedClass_52 rfl rfl ?_
        refine tz_fR (pc := 53) dX10_solvedClass_53 fl_X10_24 r_145_5 ?_
        refine tz_iload_n (pc := 56) dX10_solvedClass_56 rfl rfl ?_
        refine tz_aL (pc := 57) (z := x) (v := (J 150 x)) dX10_solvedClass_57 a_150 rfl (by omega) rfl (fun r_57 => ?_)
        exact tz_iret (pc := 58) (z := (J 150 x)) dX10_solvedClass_58 rfl (Nat.le_of_ble_eq_true rfl) (Nat.le_of_ble_eq_true rfl) ⟨Nat.le_refl _, Nat.le_add_right _ _⟩ ⟨_, rfl, (by omega), (by have o9 : uoV J x = J 150 x := (by unfold uoV; rw [if_pos ax]); have g9 : 0 ≤ J 150 x → GCj ρ J m x (J 150 x) := (fun q9 => by have w9 := hV.2.2 x hx rx; rw [o9] at w9; exact w9 q9); exact ⟨m, UG.rf C hm hU, by omega, hV, g9, fun S hG E N => (g9 (by have n9 := N x hx; rw [o9] at n9; omega)).ex C hm hG E N⟩)⟩
      · refine tz_aload_n (pc := 19) dX10_solvedClass_19 rfl rfl ?_
        refine tz_fR (pc := 20) dX10_solvedClass_20 fl_X10_18 r_145_3 ?_
        refine tz_iload_n (pc := 23) dX10_solvedClass_23 rfl rfl ?_
        refine tz_aL (pc := 24) (z := x) (v := (J 148 x)) dX10_solvedClass_24 a_148 rfl (by omega) rfl (fun r_24 => ?_)
        refine tz_istore_n (pc := 25) (L2 := [_, _, _, _]) dX10_solvedClass_25 rfl (by decide) rfl ?_
        refine tz_aload_n (pc := 26) dX10_solvedClass_26 rfl rfl ?_
        refine tz_fR (pc := 27) dX10_solvedClass_27 fl_X10_24 r_145_5 ?_
        refine tz_iload_n (pc := 30) dX10_solvedClass_30 rfl rfl ?_
        refine tz_iload_n (pc := 31) dX10_solvedClass_31 rfl rfl ?_
        refine tz_iconst (pc := 32) dX10_solvedClass_32 ?_
        refine tz_icmp_ne (pc := 33) (tgt := 45) dX10_solvedClass_33 (by decide) (by omega) (by decide) (fun h_33 => ?_) (fun h_33 => ?_)
        · refine tz_aload_n (pc := 45) dX10_solvedClass_45 rfl rfl ?_
          refine tz_iload_n (pc := 46) dX10_solvedClass_46 rfl rfl ?_
          refine tz_iload_n (pc := 47) dX10_solvedClass_47 rfl rfl ?_
          have cr9 := (hC.2 x hx rx).2 (by rw [← sh9]; omega)
          rw [← sh9] at cr9
          refine tz_cV (pc := 48) (u_solvedTerm hl n _ _ _ (by omega) (by omega) m0 T sh lvv ρ x (6 + 2 * r9) (by omega) (fun J x a m b1 b2 b3 b4 b5 b6 b7 b8 b9 => ih J x _ a (by omega) m0 T sh lvv ρ m b1 b2 b3 b4 b5 b6 b7 b8 b9 (by omega)) m C hm hU hm0 cr9.1 hV hC cr9.2.1 cr9.2.2 (by omega)) vl_X10_105 dX10_solvedClass_48 o_145 rfl rfl (Nat.le_of_ble_eq_true rfl) ⟨(show (6 + 2 * r9 + 1) + 1 ≤ 6 + 2 * (r9 + 1) by omega), (show 8 + (7 + 11) + 40 * ((6 + 2 * r9 + 1)) ≤ 40 * (6 + 2 * (r9 + 1)) by omega)⟩ rfl rfl (Nat.le_of_ble_eq_true rfl) (Nat.le_of_ble_eq_true rfl) (fun r9 J_48 hq9 => ?_)
          obtain ⟨z_48, rfl, hz_48, m_48, q_48, h_48, l_48, gc_48, ex_48⟩ := hq9
          refine tz_aS (pc := 51) (z := x) dX10_solvedClass_51 a_150 rfl (by omega) (by omega) ?_
          refine tz_aload_n (pc := 52) dX10_solvedClass_52 rfl rfl ?_
          refine tz_fR (pc := 53) dX10_solvedClass_53 fl_X10_24 r_145_5 ?_
          refine tz_iload_n (pc := 56) dX10_solvedClass_56 rfl rfl ?_
          refine tz_aL (pc := 57) (z := x) (v := z_48) dX10_solvedClass_57 a_150 rfl (by omega) (by simp [zup]) (fun r_57 => ?_)
          exact tz_iret (pc := 58) (z := z_48) dX10_solvedClass_58 rfl (Nat.le_of_ble_eq_true rfl) (Nat.le_of_ble_eq_true rfl) ⟨Nat.le_refl _, Nat.le_add_right _ _⟩ ⟨_, rfl, (by omega), (by have ax9 : J_48 146 x = J_48 145 10 := (q_48.2.2.2 x ax).trans q_48.2.2.1.symm; exact ⟨m_48, q_48.sv h_48, h_48, l_48.up ax9 gc_48, fun q9 => (gc_48 q9).of (fun q8 hq8 => zup_nc (by omega)), fun S hG E N => (ex_48 S hG E N).up5 ax9⟩)⟩
        · refine tz_aload_n (pc := 36) dX10_solvedClass_36 rfl rfl ?_
          refine tz_fR (pc := 37) dX10_solvedClass_37 fl_X10_21 r_145_4 ?_
          refine tz_iload_n (pc := 40) dX10_solvedClass_40 rfl rfl ?_
          refine tz_aL (pc := 41) (z := x) (v := (J 149 x)) dX10_solvedClass_41 a_149 rfl (by omega) rfl (fun r_41 => ?_)
          refine tz_goto (pc := 42) (tgt := 51) dX10_solvedClass_42 (by decide) ?_
          refine tz_aS (pc := 51) (z := x) dX10_solvedClass_51 a_150 rfl (by omega) (by omega) ?_
          refine tz_aload_n (pc := 52) dX10_solvedClass_52 rfl rfl ?_
          refine tz_fR (pc := 53) dX10_solvedClass_53 fl_X10_24 r_145_5 ?_
          refine tz_iload_n (pc := 56) dX10_solvedClass_56 rfl rfl ?_
          refine tz_aL (pc := 57) (z := x) (v := (J 149 x)) dX10_solvedClass_57 a_150 rfl (by omega) (by simp [zup]) (fun r_57 => ?_)
          exact tz_iret (pc := 58) (z := (J 149 x)) dX10_solvedClass_58 rfl (Nat.le_of_ble_eq_true rfl) (Nat.le_of_ble_eq_true rfl) ⟨Nat.le_refl _, Nat.le_add_right _ _⟩ ⟨_, rfl, (by omega), (by have cr9 := (hC.2 x hx rx).1 (by rw [← sh9]; omega); have lv9 := (hV.2.1 x hx).2.2; have l8 : ulV J x = -1 - J 7 (J 149 x) := (by unfold ulV; rw [if_pos ax]; unfold tm; rw [if_pos (by omega)]); have e9 : J 149 x = ρ x := ct_vu C hl9 (by have := cr9.1.z; omega) (by omega) (by omega); have g9 : GCj ρ J m x (J 149 x) := gcj_w hl9 (by omega) e9.symm; exact ⟨m, (UG.rf C hm hU).sv (Or.inr hl9), Or.inr hl9, hV.up ax (fun _ => g9), fun _ => g9.of (fun q8 hq8 => zup_nc (by omega)), fun S hG E N => (g9.ex C hm hG E N).up5 ax⟩)⟩
    · refine tz_bipush (pc := 6) dX10_solvedClass_6 (by decide) ?_
      exact tz_iret (pc := 8) (z := (-3)) dX10_solvedClass_8 rfl (Nat.le_of_ble_eq_true rfl) (Nat.le_of_ble_eq_true rfl) ⟨Nat.le_refl _, Nat.le_add_right _ _⟩ ⟨_, rfl, (by decide), ⟨m, UG.rf C hm hU, Or.inl rfl, hV, fun q9 => absurd q9 (by decide), fun S hG E N => exd_0 C (Or.inl rfl) (by omega)⟩⟩

end
section
/-! ===== bindsSolved of the reference, exact ===== -/
theorem tb0_r5 {J : zJ} {q v : Int} (h : 0 ≤ q ∧ q < 63) : tb0 (zup J 165 q v) = zup (tb0 J) 165 q v := by
  funext c k
  by_cases h5 : c = 165
  · subst h5
    show (if 0 ≤ k ∧ k < 63 then (if k = q then v else J 165 k) else 0) = if k = q then v else if 0 ≤ k ∧ k < 63 then J 165 k else 0
    (repeat' split) <;> first | rfl | omega
  · rw [zup_nc h5]
    unfold tb0
    have e : ∀ d, ¬ d = 165 → zup J 165 q v d = J d := fun d w => zup_nc w
    rw [e 164 (by decide), e 167 (by decide), e c h5, if_neg h5, if_neg h5]
def WKB (ρ : Int → Int) (bs : Int) (J J1 : zJ) (k : Nat) : Prop := (J1 164 21 = 0 → tb0 J1 = bnO ρ bs (tb0 J) k) ∧ (¬ J1 164 21 = 0 → ¬ (bnO ρ bs (tb0 J) k) 164 21 = 0)
theorem wkb_F {ρ : Int → Int} {bs : Int} {J J1 J2 : zJ} {k : Nat} (h : WKB ρ bs J J1 k) (f : ¬ J1 164 21 = 0) (g : J2 164 21 = 0 → J1 164 21 = 0) : WKB ρ bs J J2 (k + 1) := ⟨fun w => absurd (g w) f, fun _ => by rw [bnO_s, bn1_F (h.2 f)]; exact h.2 f⟩
theorem wkb_n {ρ : Int → Int} {bs v : Int} {J J1 : zJ} {k : Nat} (h : WKB ρ bs J J1 k) (hv : v = k) (h8 : v < 8) (b : ¬ bt bs v) : WKB ρ bs J (zup J1 165 (1 + v) 0) (k + 1) := by
  by_cases f : J1 164 21 = 0
  · have e := h.1 f
    have q : tb0 (zup J1 165 (1 + v) 0) = bnO ρ bs (tb0 J) (k + 1) := by
      rw [bnO_s, ← e, ← hv, bn1_n (show tb0 J1 164 21 = 0 from f) b, tb0_r5 (by omega)]
    exact ⟨fun _ => q, fun n => absurd f n⟩
  · exact wkb_F h f (fun w => w)
theorem wkb_i {ρ : Int → Int} {bs v t s m1 : Int} {J J1 : zJ} {k : Nat} (h : WKB ρ bs J J1 k) (hv : v = k) (h8 : v < 8) (b : bt bs v) (hM : MS J1 0 0 0 s m1) (ht : 0 ≤ t ∧ t < m1) (e6 : J1 166 (0 + t) = -1 - v) (er : ρ t = t) : WKB ρ bs J (zup J1 165 (1 + v) 0) (k + 1) := by
  by_cases f : J1 164 21 = 0
  · have e := h.1 f
    have w := (tm_fv hM ht (by omega) e6).1
    have q : tb0 (zup J1 165 (1 + v) 0) = bnO ρ bs (tb0 J) (k + 1) := by
      rw [bnO_s, ← e, ← hv, bn1_i (show tb0 J1 164 21 = 0 from f) b (by rw [w]; exact er), tb0_r5 (by omega)]
    exact ⟨fun _ => q, fun n => absurd f n⟩
  · exact wkb_F h f (fun w => w)
theorem wkb_g {ρ : Int → Int} {bs v t s m1 z : Int} {J J1 J3 : zJ} {k : Nat} (h : WKB ρ bs J J1 k) (hv : v = k) (h8 : v < 8) (b : bt bs v) (hM : MS J1 0 0 0 s m1) (ht : 0 ≤ t ∧ t < m1) (e6 : J1 166 (0 + t) = -1 - v) (er : ¬ ρ t = t) (x : WKR J3 z (grO ρ 6 (tb0 (zup J1 165 (1 + v) 0)) t)) (g : J3 164 21 = 0 → J1 164 21 = 0) (hz : J3 164 21 = 0 → 0 ≤ z ∧ z < 1000) : WKB ρ bs J (zup J3 165 (1 + v) (zw (1 + z))) (k + 1) := by
  by_cases f : J1 164 21 = 0
  · have e := h.1 f
    have w := (tm_fv hM ht (by omega) e6).1
    have s9 : bnO ρ bs (tb0 J) (k + 1) = zup (grO ρ 6 (tb0 (zup J1 165 (1 + v) 0)) t).1 165 (1 + v) (1 + (grO ρ 6 (tb0 (zup J1 165 (1 + v) 0)) t).2) := by
      rw [bnO_s, ← e, ← hv, bn1_g (show tb0 J1 164 21 = 0 from f) b (by rw [w]; exact er), w, tb0_r5 (by omega)]
    by_cases f3 : J3 164 21 = 0
    · have q := x.1 f3
      refine ⟨fun _ => ?_, fun n => absurd f3 n⟩
      rw [s9, ← q, tb0_r5 (by omega), zw_eq (by have := hz f3; omega)]
    · refine ⟨fun y => absurd y f3, fun _ => ?_⟩
      rw [s9]
      exact x.2 f3
  · exact wkb_F h f g
set_option maxHeartbeats 4000000 in
set_option maxRecDepth 100000 in
theorem x_there {l : Launch} {G : tb_G} (hl : l.stackTraces = false) (n : Nat) (J : zJ) (v : Int) (hr_v : -2147483648 ≤ v ∧ v < 2147483648) (s m : Int) (hM : MS J 0 0 0 s m) (hv : 0 ≤ v ∧ v < 8) : tz_Ok l G M_X12_thereOf 1 0 0 [.ref 164, zi v] n J (zqi (fun z J' => J = J' ∧ ((z = -1 ∧ ∀ q, 0 ≤ q → q < m → ¬ J 166 (0 + q) = -1 - v) ∨ ((0 ≤ z ∧ z < m) ∧ J 166 (0 + z) = -1 - v)))) zN := by
  refine tz_Ok.of hl (by decide +kernel) rfl (tb_c1 rfl) (Nat.le_of_ble_eq_true rfl) ?_
  show tz_At l G M_X12_thereOf (tb_rm 1 0 0) none (tb_ZM G 0 0 (zQ n 0 (zqi (fun z J' => J = J' ∧ ((z = -1 ∧ ∀ q, 0 ≤ q → q < m → ¬ J 166 (0 + q) = -1 - v) ∨ ((0 ≤ z ∧ z < m) ∧ J 166 (0 + z) = -1 - v))))) (zX n 0 zN)) 0 0 n J 0 [some (.ref 164), some (zi v), none] []
  have hT := hM.told
  refine tz_iconst (pc := 0) dX12_thereOf_0 ?_
  refine tz_istore_n (pc := 1) (L2 := [_, _, _]) dX12_thereOf_1 rfl (by decide) rfl ?_
  have loop2 : ∀ (f9 : Nat) (k : Int), ((m - k).toNat) < f9 → (0 ≤ k ∧ k ≤ m) → (∀ q, 0 ≤ q → q < k → ¬ J 166 (0 + q) = -1 - v) → tz_At l G M_X12_thereOf (tb_rm 1 0 0) none (tb_ZM G 0 0 (zQ n 0 (zqi (fun z J' => J = J' ∧ ((z = -1 ∧ ∀ q, 0 ≤ q → q < m → ¬ J 166 (0 + q) = -1 - v) ∨ ((0 ≤ z ∧ z < m) ∧ J 166 (0 + z) = -1 - v))))) (zX n 0 zN)) 0 0 n J 2 [some (.ref 164), some (zi v), some (zi k)] [] := by
    intro f9
    induction f9 with
    | zero => intro k hm9; exact absurd hm9 (Nat.not_lt_zero _)
    | succ f9 ih2 =>
      intro k hm2 hk hn
      refine tz_iload_n (pc := 2) dX12_thereOf_2 rfl rfl ?_
      refine tz_aload_n (pc := 3) dX12_thereOf_3 rfl rfl ?_
      refine tz_cV (pc := 4) (m_many hl n _ 0 0 0 s m hM) vl_X12_96 dX12_thereOf_4 o_164 rfl rfl (Nat.le_of_ble_eq_true rfl) ⟨(Nat.le_of_ble_eq_true rfl), (Nat.le_of_ble_eq_true rfl)⟩ rfl rfl (Nat.le_of_ble_eq_true rfl) (Nat.le_of_ble_eq_true rfl) (fun r9 J_4 hq9 => ?_)
      obtain ⟨z_4, rfl, hz_4, rfl, rfl⟩ := hq9
      refine tz_icmp_ge (pc := 7) (tgt := 29) dX12_thereOf_7 (by decide) (by omega) (by omega) (fun h_7 => ?_) (fun h_7 => ?_)
      · refine tz_iconst (pc := 29) dX12_thereOf_29 ?_
        exact tz_iret (pc := 30) (z := (-1)) dX12_thereOf_30 rfl (Nat.le_of_ble_eq_true rfl) (Nat.le_of_ble_eq_true rfl) ⟨Nat.le_refl _, Nat.le_add_right _ _⟩ ⟨_, rfl, (by decide), (by first | exact ⟨rfl, Or.inr ⟨by omega, by omega⟩⟩ | exact ⟨rfl, Or.inl ⟨rfl, fun q a c => hn q a (by omega)⟩⟩)⟩
      · refine tz_aload_n (pc := 10) dX12_thereOf_10 rfl rfl ?_
        refine tz_iload_n (pc := 11) dX12_thereOf_11 rfl rfl ?_
        refine tz_cV (pc := 12) (m_head hl n _ _ (by omega) 0 0 0 s m hM (by omega)) vl_X12_74 dX12_thereOf_12 o_164 rfl rfl (Nat.le_of_ble_eq_true rfl) ⟨(Nat.le_of_ble_eq_true rfl), (Nat.le_of_ble_eq_true rfl)⟩ rfl rfl (Nat.le_of_ble_eq_true rfl) (Nat.le_of_ble_eq_true rfl) (fun r9 J_12 hq9 => ?_)
        obtain ⟨z_12, rfl, hz_12, rfl, rfl⟩ := hq9
        refine tz_iconst (pc := 15) dX12_thereOf_15 ?_
        refine tz_iload_n (pc := 16) dX12_thereOf_16 rfl rfl ?_
        refine tz_isub (pc := 17) (v := (-1) - v) dX12_thereOf_17 rfl ?_
        refine tz_icmp_ne (pc := 18) (tgt := 23) dX12_thereOf_18 (by decide) (by omega) (by omega) (fun h_18 => ?_) (fun h_18 => ?_)
        · refine tz_iinc (pc := 23) (z := k + 1) (L2 := [_, _, _]) dX12_thereOf_23 rfl (by omega) rfl ?_
          refine tz_goto (pc := 26) (tgt := 2) dX12_thereOf_26 (by decide) ?_
          exact ih2 (k + 1) (by omega) (by omega) (fun q a c => (Decidable.em (q = k)).elim (fun e => by rw [e]; omega) (fun e => hn q a (by omega)))
        · refine tz_iload_n (pc := 21) dX12_thereOf_21 rfl rfl ?_
          exact tz_iret (pc := 22) (z := k) dX12_thereOf_22 rfl (Nat.le_of_ble_eq_true rfl) (Nat.le_of_ble_eq_true rfl) ⟨Nat.le_refl _, Nat.le_add_right _ _⟩ ⟨_, rfl, (by omega), (by first | exact ⟨rfl, Or.inr ⟨by omega, by omega⟩⟩ | exact ⟨rfl, Or.inl ⟨rfl, fun q a c => hn q a (by omega)⟩⟩)⟩
  exact loop2 _ 0 (Nat.lt_succ_self _) (by omega) (fun q a c => by omega)

set_option maxHeartbeats 4000000 in
set_option maxRecDepth 100000 in
theorem x_binds {l : Launch} {G : tb_G} (hl : l.stackTraces = false) (n : Nat) (J : zJ) (x : Int) (hr_x : -2147483648 ≤ x ∧ x < 2147483648) (s m : Int) (ρ : Int → Int) (hM : MS J 0 0 0 s m) (hs : J 164 9 = s) (hU : UF J 400 m) (hρ : mRHO J m ρ) (hbv : ∀ v, 0 ≤ v → v < 8 → bt x v → ∃ t, (0 ≤ t ∧ t < m) ∧ J 166 (0 + t) = -1 - v) : tz_Ok l G M_X12_bindsSolved 14 0 0 [.ref 164, zi x] n J (zqv (fun J' => (∃ m', MG [] [] rB J' J 0 0 0 s m m' ∧ (J' 164 21 = 0 → ∀ v, 1 ≤ v → v ≤ 8 → 0 ≤ J' 165 v ∧ J' 165 v ≤ m')) ∧ WKB ρ x J J' 8)) zN := by
  refine tz_Ok.of hl (by decide +kernel) rfl (tb_c1 rfl) (Nat.le_of_ble_eq_true rfl) ?_
  show tz_At l G M_X12_bindsSolved (tb_rm 14 0 0) none (tb_ZM G 0 0 (zQ n 0 (zqv (fun J' => (∃ m', MG [] [] rB J' J 0 0 0 s m m' ∧ (J' 164 21 = 0 → ∀ v, 1 ≤ v → v ≤ 8 → 0 ≤ J' 165 v ∧ J' 165 v ≤ m')) ∧ WKB ρ x J J' 8))) (zX n 0 zN)) 0 0 n J 0 [some (.ref 164), some (zi x), none, none, none, none] []
  have hT := hM.told
  have g0 : MG [] [] rB J J 0 0 0 s m m := MG.rf hM
  refine tz_aload_n (pc := 0) dX12_bindsSolved_0 rfl rfl ?_
  refine tz_cV (pc := 1) (m_many hl n _ 0 0 0 s m hM) vl_X12_96 dX12_bindsSolved_1 o_164 rfl rfl (Nat.le_of_ble_eq_true rfl) ⟨(Nat.le_of_ble_eq_true rfl), (Nat.le_of_ble_eq_true rfl)⟩ rfl rfl (Nat.le_of_ble_eq_true rfl) (Nat.le_of_ble_eq_true rfl) (fun r9 J_1 hq9 => ?_)
  obtain ⟨z_1, rfl, hz_1, rfl, rfl⟩ := hq9
  refine tz_istore_n (pc := 4) (L2 := [_, _, _, _, _, _]) dX12_bindsSolved_4 rfl (by decide) rfl ?_
  refine tz_iconst (pc := 5) dX12_bindsSolved_5 ?_
  refine tz_istore_n (pc := 6) (L2 := [_, _, _, _, _, _]) dX12_bindsSolved_6 rfl (by decide) rfl ?_
  have loop7 : ∀ (f9 : Nat) (k : Int) (m1 : Int) (d4 : Option Value) (d5 : Option Value) (J1 : zJ), ((8 - k).toNat) < f9 → (0 ≤ k ∧ k ≤ 8) → (MG [] [] rB J1 J 0 0 0 s m m1) → (J1 164 21 = 0 → ∀ v, 1 ≤ v → v < 1 + k → 0 ≤ J1 165 v ∧ J1 165 v ≤ m1) → (WKB ρ x J J1 k.toNat) → tz_At l G M_X12_bindsSolved (tb_rm 14 0 0) none (tb_ZM G 0 0 (zQ n 0 (zqv (fun J' => (∃ m', MG [] [] rB J' J 0 0 0 s m m' ∧ (J' 164 21 = 0 → ∀ v, 1 ≤ v → v ≤ 8 → 0 ≤ J' 165 v ∧ J' 165 v ≤ m')) ∧ WKB ρ x J J' 8))) (zX n 0 zN)) 0 0 n J1 7 [some (.ref 164), some (zi x), some (zi m), some (zi k), d4, d5] [] := by
    intro f9
    induction f9 with
    | zero => intro k m1 d4 d5 J1 hm9; exact absurd hm9 (Nat.not_lt_zero _)
    | succ f9 ih7 =>
      intro k m1 d4 d5 J1 hm7 hk g1 h1 wk
      have ht1 := g1.1.1.told
      have lm1 := g1.1.2
      refine tz_iload_n (pc := 7) dX12_bindsSolved_7 rfl rfl ?_
      refine tz_bipush (pc := 8) dX12_bindsSolved_8 (by decide) ?_
      refine tz_icmp_ge (pc := 10) (tgt := 110) dX12_bindsSolved_10 (by decide) (by omega) (by decide) (fun h_10 => ?_) (fun h_10 => ?_)
      · exact tz_vret (pc := 110) dX12_bindsSolved_110 rfl (Nat.le_of_ble_eq_true rfl) (Nat.le_of_ble_eq_true rfl) ⟨Nat.le_refl _, Nat.le_add_right _ _⟩ ⟨rfl, ⟨⟨m1, g1, fun q v a c => h1 q v a (by omega)⟩, by have e9 : k.toNat = 8 := (by omega); rw [e9] at wk; exact wk⟩⟩
      · refine tz_aload_n (pc := 13) dX12_bindsSolved_13 rfl rfl ?_
        refine tz_fR (pc := 14) dX12_bindsSolved_14 fl_X12_9 r_164_0 ?_
        refine tz_iconst (pc := 17) dX12_bindsSolved_17 ?_
        refine tz_iload_n (pc := 18) dX12_bindsSolved_18 rfl rfl ?_
        refine tz_iadd (pc := 19) (v := 1 + k) dX12_bindsSolved_19 rfl ?_
        refine tz_iconst (pc := 20) dX12_bindsSolved_20 ?_
        refine tz_aS (pc := 21) (z := (1 + k)) dX12_bindsSolved_21 a_165 rfl (by omega) (by decide) ?_
        refine tz_iload_n (pc := 22) dX12_bindsSolved_22 rfl rfl ?_
        refine tz_iload_n (pc := 23) dX12_bindsSolved_23 rfl rfl ?_
        refine tz_ishr (pc := 24) (v := zshr x k) dX12_bindsSolved_24 rfl ?_
        refine tz_iconst (pc := 25) dX12_bindsSolved_25 ?_
        refine tz_iand (pc := 26) (v := zand (zshr x k) 1) dX12_bindsSolved_26 rfl ?_
        refine tz_iconst (pc := 27) dX12_bindsSolved_27 ?_
        refine tz_icmp_ne (pc := 28) (tgt := 39) dX12_bindsSolved_28 (by decide) (zand_rg _ _) (by decide) (fun h_28 => ?_) (fun h_28 => ?_)
        · refine tz_iconst (pc := 39) dX12_bindsSolved_39 ?_
          refine tz_istore (pc := 40) (L2 := [_, _, _, _, _, _]) dX12_bindsSolved_40 (by decide) rfl ?_
          refine tz_iload (pc := 42) dX12_bindsSolved_42 rfl ?_
          refine tz_iconst (pc := 44) dX12_bindsSolved_44 ?_
          refine tz_icmp_eqT (pc := 45) (tgt := 104) (by decide) dX12_bindsSolved_45 (by decide) (by decide) (by decide) ?_
          refine tz_iinc (pc := 104) (z := k + 1) (L2 := [_, _, _, _, _, _]) dX12_bindsSolved_104 rfl (by omega) rfl ?_
          refine tz_goto (pc := 107) (tgt := 7) dX12_bindsSolved_107 (by decide) ?_
          exact ih7 (k + 1) _ _ _ _ (by omega) (by omega) (g1.rb (by omega)) (bs_s1 h1 (by omega) g1.1.1.told.2.1.1) (by rw [show (k + 1).toNat = k.toNat + 1 from by omega]; first | exact wkb_n wk (by omega) (by omega) (by unfold bt; omega) | exact wkb_i wk (by omega) (by omega) bt9 g1.1.1 (t := z_33) (by omega) zt8 (ei9 (by omega) (by omega)) | (exfalso; omega))
        · refine tz_aload_n (pc := 31) dX12_bindsSolved_31 rfl rfl ?_
          refine tz_iload_n (pc := 32) dX12_bindsSolved_32 rfl rfl ?_
          have g2 : MG [] [] rB (zup J1 165 (1 + k) 0) J 0 0 0 s m m1 := g1.rb (by omega)
          refine tz_cV (pc := 33) (x_there hl n _ _ (by omega) s m1 g2.1.1 (by omega)) vl_X12_186 dX12_bindsSolved_33 o_164 rfl rfl (Nat.le_of_ble_eq_true rfl) ⟨(Nat.le_of_ble_eq_true rfl), (Nat.le_of_ble_eq_true rfl)⟩ rfl rfl (Nat.le_of_ble_eq_true rfl) (Nat.le_of_ble_eq_true rfl) (fun r9 J_33 hq9 => ?_)
          obtain ⟨z_33, rfl, hz_33, rfl, hz33⟩ := hq9
          have bt9 : bt x k := by unfold bt; omega
          obtain ⟨t9, th9, te9⟩ := hbv k (by omega) (by omega) bt9
          have lm8 := g1.1.2
          have tg9 : J1 166 (0 + t9) = -1 - k := by rw [(g1.2.1 t9 th9.1 th9.2).1.1]; exact te9
          have zt9 : (0 ≤ z_33 ∧ z_33 < m) ∧ J1 166 (0 + z_33) = -1 - k := by rcases hz33 with ⟨_, q9⟩ | ⟨q8, q9⟩; exact absurd tg9 (q9 t9 th9.1 (by omega)); (have q7 : J1 166 (0 + z_33) = -1 - k := q9; have e9 := ms_vu g1.1.1 (a := t9) (b := z_33) (by omega) q8 (by omega) (tg9.trans q7.symm); exact ⟨by omega, q7⟩)
          have zt8 := zt9.2
          have zt7 : J 166 (0 + z_33) = -1 - k := by rw [← (g1.2.1 z_33 (by omega) (by omega)).1.1]; exact zt8
          have zv9 : VN 400 m z_33 := ⟨by omega, by omega⟩
          have rh9 := hρ z_33 zv9
          have rz9 := rh9.1.z
          refine tz_goto (pc := 36) (tgt := 40) dX12_bindsSolved_36 (by decide) ?_
          refine tz_istore (pc := 40) (L2 := [_, _, _, _, _, _]) dX12_bindsSolved_40 (by decide) rfl ?_
          refine tz_iload (pc := 42) dX12_bindsSolved_42 rfl ?_
          refine tz_iconst (pc := 44) dX12_bindsSolved_44 ?_
          refine tz_icmp_eq (pc := 45) (tgt := 104) dX12_bindsSolved_45 (by decide) (by omega) (by decide) (fun h_45 => ?_) (fun h_45 => ?_)
          · refine tz_iinc (pc := 104) (z := k + 1) (L2 := [_, _, _, _, _, _]) dX12_bindsSolved_104 rfl (by omega) rfl ?_
            refine tz_goto (pc := 107) (tgt := 7) dX12_bindsSolved_107 (by decide) ?_
            exact ih7 (k + 1) _ _ _ _ (by omega) (by omega) (g1.rb (by omega)) (bs_s1 h1 (by omega) g1.1.1.told.2.1.1) (by rw [show (k + 1).toNat = k.toNat + 1 from by omega]; first | exact wkb_n wk (by omega) (by omega) (by unfold bt; omega) | exact wkb_i wk (by omega) (by omega) bt9 g1.1.1 (t := z_33) (by omega) zt8 (ei9 (by omega) (by omega)) | (exfalso; omega))
          · refine tz_iload (pc := 48) dX12_bindsSolved_48 rfl ?_
            refine tz_iload_n (pc := 50) dX12_bindsSolved_50 rfl rfl ?_
            refine tz_icmp_lt (pc := 51) (tgt := 57) dX12_bindsSolved_51 (by decide) (by omega) (by omega) (fun h_51 => ?_) (fun h_51 => ?_)
            · refine tz_aload_n (pc := 57) dX12_bindsSolved_57 rfl rfl ?_
              refine tz_iload (pc := 58) dX12_bindsSolved_58 rfl ?_
              refine tz_cV (pc := 60) (x_top hl n _ _ (by omega) 400 m (hU.mg g2 ⟨rfl, rfl, rfl⟩) zv9) vl_X12_164 dX12_bindsSolved_60 o_164 rfl rfl (Nat.le_of_ble_eq_true rfl) ⟨(Nat.le_of_ble_eq_true rfl), (Nat.le_of_ble_eq_true rfl)⟩ rfl rfl (Nat.le_of_ble_eq_true rfl) (Nat.le_of_ble_eq_true rfl) (fun r9 J_60 hq9 => ?_)
              obtain ⟨z_60, rfl, hz_60, rfl, v_60, b_60, t_60⟩ := hq9
              have a_60 := v_60.1
              have tt60 : tp (J 177) z_33 = z_60 := by rw [← t_60]; show _ = tp (J1 177) z_33; rw [g1.2.2.1.2.2.2 177 rfl]
              rw [tt60] at rh9
              have ei9 : J 178 z_60 = -1 → J 179 z_60 = k → ρ z_33 = z_33 := fun q8 q9 => (ms_vu hM (a := z_33) (b := ρ z_33) (by omega) rz9 (by omega) (by rw [rh9.2.1 q8, zt7, q9])).symm
              have ne9 : (¬ J 178 z_60 = -1 ∨ ¬ J 179 z_60 = k) → ¬ ρ z_33 = z_33 := fun q8 q9 => by rcases Decidable.em (J 178 z_60 = -1) with q7 | q7; (have := rh9.2.1 q7; rw [q9] at this; omega); (have := (rh9.2.2 q7).2; rw [q9] at this; omega)
              refine tz_istore (pc := 63) (L2 := [_, _, _, _, _, _]) dX12_bindsSolved_63 (by decide) rfl ?_
              refine tz_aload_n (pc := 65) dX12_bindsSolved_65 rfl rfl ?_
              refine tz_fR (pc := 66) dX12_bindsSolved_66 fl_X12_53 r_164_26 ?_
              refine tz_iload (pc := 69) dX12_bindsSolved_69 rfl ?_
              refine tz_aL (pc := 71) (z := z_60) (v := (J 178 z_60)) dX12_bindsSolved_71 a_178 rfl (by omega) (Eq.trans (congrFun (g1.2.2.1.2.2.2 178 rfl) z_60) rfl) (fun r_71 => ?_)
              refine tz_iconst (pc := 72) dX12_bindsSolved_72 ?_
              refine tz_icmp_ne (pc := 73) (tgt := 87) dX12_bindsSolved_73 (by decide) (by omega) (by decide) (fun h_73 => ?_) (fun h_73 => ?_)
              · refine tz_aload_n (pc := 87) dX12_bindsSolved_87 rfl rfl ?_
                refine tz_fR (pc := 88) dX12_bindsSolved_88 fl_X12_9 r_164_0 ?_
                refine tz_iconst (pc := 91) dX12_bindsSolved_91 ?_
                refine tz_iload_n (pc := 92) dX12_bindsSolved_92 rfl rfl ?_
                refine tz_iadd (pc := 93) (v := 1 + k) dX12_bindsSolved_93 rfl ?_
                refine tz_iconst (pc := 94) dX12_bindsSolved_94 ?_
                refine tz_aload_n (pc := 95) dX12_bindsSolved_95 rfl rfl ?_
                refine tz_iload (pc := 96) dX12_bindsSolved_96 rfl ?_
                refine tz_iconst (pc := 98) dX12_bindsSolved_98 ?_
                have lm := g1.1.2
                have nr9 := ne9 (by omega)
                refine tz_cV (pc := 99) (x_solved hl n _ _ _ (by omega) (by decide) s m1 m ρ g2.1.1 ((g2.2.2.1.2.2.1 9 (by decide)).trans hs) (hU.mg g2 ⟨rfl, rfl, rfl⟩) lm (by omega) (by decide) (hρ.mg (Int.le_refl _) g2)) vl_X12_183 dX12_bindsSolved_99 o_164 rfl rfl (Nat.le_of_ble_eq_true rfl) ⟨(Nat.le_of_ble_eq_true rfl), (Nat.le_of_ble_eq_true rfl)⟩ rfl rfl (Nat.le_of_ble_eq_true rfl) (Nat.le_of_ble_eq_true rfl) (fun r9 J_99 hq9 => ?_)
                obtain ⟨z_99, rfl, hz_99, m_99, g_99, h_99, x_99⟩ := hq9
                rw [show (7 - 1 : Int).toNat = 6 from rfl] at x_99
                refine tz_iadd (pc := 102) (v := 1 + z_99) dX12_bindsSolved_102 rfl ?_
                refine tz_tw ?_
                have rw_103 := zw_rg (1 + z_99)
                refine tz_aS (pc := 103) (z := (1 + k)) dX12_bindsSolved_103 a_165 rfl (by omega) (zw_rg _) ?_
                refine tz_iinc (pc := 104) (z := k + 1) (L2 := [_, _, _, _, _, _]) dX12_bindsSolved_104 rfl (by omega) rfl ?_
                refine tz_goto (pc := 107) (tgt := 7) dX12_bindsSolved_107 (by decide) ?_
                have q9 := g1.tr9 g2 g_99
                have l9 := g_99.1.2
                have t9 := g_99.1.1.told
                exact ih7 (k + 1) _ _ _ _ (by omega) (by omega) (q9.rb (by omega)) (bs_s2 h1 g_99 h_99 (by omega)) (by rw [show (k + 1).toNat = k.toNat + 1 from by omega]; exact wkb_g wk (by omega) (by omega) bt9 g1.1.1 (by omega) zt8 nr9 x_99 g_99.2.2.2 (fun q8 => by have := h_99 q8; omega))
              · refine tz_aload_n (pc := 76) dX12_bindsSolved_76 rfl rfl ?_
                refine tz_fR (pc := 77) dX12_bindsSolved_77 fl_X12_56 r_164_27 ?_
                refine tz_iload (pc := 80) dX12_bindsSolved_80 rfl ?_
                refine tz_aL (pc := 82) (z := z_60) (v := (J 179 z_60)) dX12_bindsSolved_82 a_179 rfl (by omega) (Eq.trans (congrFun (g1.2.2.1.2.2.2 179 rfl) z_60) rfl) (fun r_82 => ?_)
                refine tz_iload_n (pc := 83) dX12_bindsSolved_83 rfl rfl ?_
                refine tz_icmp_eq (pc := 84) (tgt := 104) dX12_bindsSolved_84 (by decide) (by omega) (by omega) (fun h_84 => ?_) (fun h_84 => ?_)
                · refine tz_iinc (pc := 104) (z := k + 1) (L2 := [_, _, _, _, _, _]) dX12_bindsSolved_104 rfl (by omega) rfl ?_
                  refine tz_goto (pc := 107) (tgt := 7) dX12_bindsSolved_107 (by decide) ?_
                  exact ih7 (k + 1) _ _ _ _ (by omega) (by omega) (g1.rb (by omega)) (bs_s1 h1 (by omega) g1.1.1.told.2.1.1) (by rw [show (k + 1).toNat = k.toNat + 1 from by omega]; first | exact wkb_n wk (by omega) (by omega) (by unfold bt; omega) | exact wkb_i wk (by omega) (by omega) bt9 g1.1.1 (t := z_33) (by omega) zt8 (ei9 (by omega) (by omega)) | (exfalso; omega))
                · refine tz_aload_n (pc := 87) dX12_bindsSolved_87 rfl rfl ?_
                  refine tz_fR (pc := 88) dX12_bindsSolved_88 fl_X12_9 r_164_0 ?_
                  refine tz_iconst (pc := 91) dX12_bindsSolved_91 ?_
                  refine tz_iload_n (pc := 92) dX12_bindsSolved_92 rfl rfl ?_
                  refine tz_iadd (pc := 93) (v := 1 + k) dX12_bindsSolved_93 rfl ?_
                  refine tz_iconst (pc := 94) dX12_bindsSolved_94 ?_
                  refine tz_aload_n (pc := 95) dX12_bindsSolved_95 rfl rfl ?_
                  refine tz_iload (pc := 96) dX12_bindsSolved_96 rfl ?_
                  refine tz_iconst (pc := 98) dX12_bindsSolved_98 ?_
                  have lm := g1.1.2
                  have nr9 := ne9 (by omega)
                  refine tz_cV (pc := 99) (x_solved hl n _ _ _ (by omega) (by decide) s m1 m ρ g2.1.1 ((g2.2.2.1.2.2.1 9 (by decide)).trans hs) (hU.mg g2 ⟨rfl, rfl, rfl⟩) lm (by omega) (by decide) (hρ.mg (Int.le_refl _) g2)) vl_X12_183 dX12_bindsSolved_99 o_164 rfl rfl (Nat.le_of_ble_eq_true rfl) ⟨(Nat.le_of_ble_eq_true rfl), (Nat.le_of_ble_eq_true rfl)⟩ rfl rfl (Nat.le_of_ble_eq_true rfl) (Nat.le_of_ble_eq_true rfl) (fun r9 J_99 hq9 => ?_)
                  obtain ⟨z_99, rfl, hz_99, m_99, g_99, h_99, x_99⟩ := hq9
                  rw [show (7 - 1 : Int).toNat = 6 from rfl] at x_99
                  refine tz_iadd (pc := 102) (v := 1 + z_99) dX12_bindsSolved_102 rfl ?_
                  refine tz_tw ?_
                  have rw_103 := zw_rg (1 + z_99)
                  refine tz_aS (pc := 103) (z := (1 + k)) dX12_bindsSolved_103 a_165 rfl (by omega) (zw_rg _) ?_
                  refine tz_iinc (pc := 104) (z := k + 1) (L2 := [_, _, _, _, _, _]) dX12_bindsSolved_104 rfl (by omega) rfl ?_
                  refine tz_goto (pc := 107) (tgt := 7) dX12_bindsSolved_107 (by decide) ?_
                  have q9 := g1.tr9 g2 g_99
                  have l9 := g_99.1.2
                  have t9 := g_99.1.1.told
                  exact ih7 (k + 1) _ _ _ _ (by omega) (by omega) (q9.rb (by omega)) (bs_s2 h1 g_99 h_99 (by omega)) (by rw [show (k + 1).toNat = k.toNat + 1 from by omega]; exact wkb_g wk (by omega) (by omega) bt9 g1.1.1 (by omega) zt8 nr9 x_99 g_99.2.2.2 (fun q8 => by have := h_99 q8; omega))
            · refine tz_goto (pc := 54) (tgt := 104) dX12_bindsSolved_54 (by decide) ?_
              refine tz_iinc (pc := 104) (z := k + 1) (L2 := [_, _, _, _, _, _]) dX12_bindsSolved_104 rfl (by omega) rfl ?_
              refine tz_goto (pc := 107) (tgt := 7) dX12_bindsSolved_107 (by decide) ?_
              exact ih7 (k + 1) _ _ _ _ (by omega) (by omega) (g1.rb (by omega)) (bs_s1 h1 (by omega) g1.1.1.told.2.1.1) (by rw [show (k + 1).toNat = k.toNat + 1 from by omega]; first | exact wkb_n wk (by omega) (by omega) (by unfold bt; omega) | exact wkb_i wk (by omega) (by omega) bt9 g1.1.1 (t := z_33) (by omega) zt8 (ei9 (by omega) (by omega)) | (exfalso; omega))
  exact loop7 _ 0 m none none _ (Nat.lt_succ_self _) (by omega) g0 (fun _ v a c => by omega) ⟨fun _ => rfl, fun q9 => q9⟩

end
section
/-! ===== bindings out of classes ===== -/
theorem occ_nd {S : zJ} {m : Int} (h : tcl S m) : ∀ (k : Nat) (t v : Int), (0 ≤ t ∧ t < m) → occ S 0 0 k t v → ∃ u, (0 ≤ u ∧ u < m) ∧ S 166 (0 + u) = -1 - v
  | 0, _, _, _, o => o.elim
  | k + 1, t, v, ht, o => by
    rcases o with ⟨o1, o2⟩ | ⟨i, hi, o⟩
    · exact ⟨t, ht, by omega⟩
    · have w := h t i ht hi.1 hi.2
      exact occ_nd h k _ v ⟨w.2.1, w.2.2⟩ o
theorem Occ.nd {S : zJ} {m t v : Int} (h : tcl S m) (ht : 0 ≤ t ∧ t < m) (o : Occ S 0 0 t v) : ∃ u, (0 ≤ u ∧ u < m) ∧ S 166 (0 + u) = -1 - v := o.elim (fun k o => occ_nd h k t v ht o)
theorem MS.ond {J : zJ} {s m : Int} (hM : MS J 0 0 0 s m) : ∀ (k : Nat) (t v : Int), (0 ≤ t ∧ t < m) → occ J 0 0 k t v → ∃ u, (0 ≤ u ∧ u < m) ∧ J 166 (0 + u) = -1 - v
  | 0, _, _, _, o => o.elim
  | k + 1, t, v, ht, o => by
    rcases o with ⟨o1, o2⟩ | ⟨i, hi, o⟩
    · exact ⟨t, ht, by omega⟩
    · have a := (hM.arg ht hi).1
      exact MS.ond hM k _ v ⟨a.1, by omega⟩ o
/-- a picture of the classes, and what they come to -/
def GSOL (S : zJ) (m0 s t : Int) (ρ : Int → Int) : Prop := ∃ p sh lv, UFp (VN 400 m0) p ∧ SHp (VN 400 m0) (hdN S 0) p sh lv ∧ (∀ u v, VN 400 m0 u → VN 400 m0 v → (tp p u = tp p v ↔ LCu (VN 400 m0) (hdN S 0) (arN S 0 0) (agN S 0) s t u v)) ∧ RHO S m0 (tp p) sh lv ρ
def UEX (S : zJ) (m0 s t : Int) : Prop := ∃ f, CGm (VN 400 m0) (hdN S 0) (arN S 0 0) (agN S 0) f ∧ f s = f t
def NRQ (S : zJ) (m0 s t : Int) : Prop := NRu (VN 400 m0) (hdN S 0) (arN S 0 0) (agN S 0) (LCu (VN 400 m0) (hdN S 0) (arN S 0 0) (agN S 0) s t) s
theorem sol_mk {S : zJ} {m0 : Int} {p sh lv : Int → Int} (U : UFp (VN 400 m0) p) (H : SHp (VN 400 m0) (hdN S 0) p sh lv) : ∃ ρ, RHO S m0 (tp p) sh lv ρ ∧ ∀ t, VN 400 m0 t → VN 400 m0 (tp p t) ∧ tp p (tp p t) = tp p t ∧ ρ t = ρ (tp p t) := by
  have w : ∀ a, ∃ r, VN 400 m0 a → p a = a → VN 400 m0 r ∧ (sh a = -1 → S 166 (0 + r) = -1 - lv a) ∧ (¬ sh a = -1 → r = sh a) := fun a => by
    by_cases q : VN 400 m0 a ∧ p a = a
    · obtain ⟨h1, h2⟩ := H a q.1 q.2
      by_cases n : sh a = -1
      · obtain ⟨_, u, hu, e1, e2⟩ := h2 n
        refine ⟨u, fun _ _ => ⟨hu, fun _ => ?_, fun n' => absurd n n'⟩⟩
        rw [← (hdN_4 (S := S) hu).1]
        omega
      · exact ⟨sh a, fun _ _ => ⟨(h1.resolve_left n).1, fun n' => absurd n' n, fun _ => rfl⟩⟩
    · exact ⟨0, fun a b => absurd ⟨a, b⟩ q⟩
  obtain ⟨f, hf⟩ := Classical.axiomOfChoice w
  refine ⟨fun t => f (tp p t), fun t ht => ?_, fun t ht => ?_⟩
  · have r := U.root ht
    exact hf _ r.2 r.1
  · have r := U.root ht
    have e := tp_r r.1
    refine ⟨r.2, e, ?_⟩
    (try dsimp only)
    rw [e]
theorem sol_lv {S : zJ} {m0 a : Int} {p sh lv : Int → Int} (H : SHp (VN 400 m0) (hdN S 0) p sh lv) (ha : VN 400 m0 a) (r : p a = a) : (sh a = -1 → 0 ≤ lv a) ∧ (¬ sh a = -1 → VN 400 m0 (sh a) ∧ 0 ≤ S 166 (0 + sh a)) := by
  obtain ⟨h1, h2⟩ := H a ha r
  refine ⟨fun n => ?_, fun n => ?_⟩
  · obtain ⟨q, u, hu, e1, e2⟩ := h2 n
    have := (q u hu e1).1
    omega
  · obtain ⟨q1, q2, q3⟩ := h1.resolve_left n
    exact ⟨q1, by rw [← (hdN_4 (S := S) q1).1]; exact q2⟩
theorem cro_mk {S J : zJ} {m0 : Int} {p sh lv ρ : Int → Int} (E : A0 J S) (C : CT J m0) (hm : J 6 12 = m0) (H : SHp (VN 400 m0) (hdN S 0) p sh lv) (R : RHO S m0 (tp p) sh lv ρ) (U : UFp (VN 400 m0) p) (q : ∀ t, VN 400 m0 t → VN 400 m0 (tp p t) ∧ tp p (tp p t) = tp p t ∧ ρ t = ρ (tp p t)) : CRO m0 (tp p) sh lv ρ J := ⟨q, fun x hx e => by
  have r : p x = x := by
    have := (U.root hx).1
    rw [e] at this
    exact this
  obtain ⟨l1, l2⟩ := sol_lv H hx r
  obtain ⟨a, b, c⟩ := R x hx
  rw [e] at b c
  refine ⟨fun n => ⟨a, ?_, l1 n⟩, fun n => ?_⟩
  · rw [← (E.tm C hm a.z).1]; exact b n
  · obtain ⟨y1, y2⟩ := l2 n
    exact ⟨y1, by rw [← (E.tm C hm y1.z).1]; exact y2, c n⟩⟩
/-! ===== one binding, in the class ===== -/
def BNX (m0 : Int) (ρ : Int → Int) (S : zJ) (x z : Int) (J' : zJ) : Prop := (ρ x = x ∧ z = -1 ∧ A0 J' S ∧ nNO m0 J') ∨ (¬ ρ x = x ∧ ((z = -3 ∧ ¬ (grO ρ 6 S x).1 164 21 = 0) ∨ (0 ≤ z ∧ (grO ρ 6 S x).1 164 21 = 0 ∧ A0 J' (grO ρ 6 S x).1 ∧ z = (grO ρ 6 S x).2 ∧ nNO m0 J')))
theorem bnx_s {m0 m' x y z : Int} {ρ : Int → Int} {S J' : zJ} (C : CT J' m') (hz : z = -3 ∨ (0 ≤ z ∧ z < m')) (e : EXK (nNO m0) 6 (grO ρ 6 S y) z J') (er : ρ x = ρ y) (ne : ¬ ρ x = x) : BNX m0 ρ S x z J' := by
  rw [grO_r (k := 6) er.symm] at e
  rcases e with ⟨a, b⟩ | ⟨a, b, c⟩ | ⟨a, b, c, d, f⟩
  · exact Or.inr ⟨ne, Or.inl ⟨a, b⟩⟩
  · exfalso
    have w : 0 ≤ z ∧ z < m' := by omega
    have := (C.nums w.1 w.2).2.2
    omega
  · exact Or.inr ⟨ne, Or.inr ⟨a, b, c, d, f⟩⟩
theorem bnx_v {m0 x z : Int} {ρ : Int → Int} {S J' : zJ} (hS : S 164 21 = 0) (E : A0 J' S) (N : nNO m0 J') (hv : S 166 (0 + ρ x) < 0) (h0 : 0 ≤ ρ x) (hz : (ρ x = x ∧ z = -1) ∨ (¬ ρ x = x ∧ z = ρ x)) : BNX m0 ρ S x z J' := by
  have g : grO ρ 6 S x = (S, ρ x) := by rw [show (6 : Nat) = 5 + 1 from rfl, grO_s, if_pos hS, if_pos hv]
  rcases hz with ⟨a, b⟩ | ⟨a, b⟩
  · exact Or.inl ⟨a, b, E, N⟩
  · unfold BNX
    rw [g]
    exact Or.inr ⟨a, Or.inr ⟨by omega, hS, E, b, N⟩⟩
/-- a variable's term is there -/
theorem bst_v {J1 J2 G : zJ} {m1 v t z : Int} (E : A0 J1 G) (h0 : G 164 21 = 0) (C : CT J1 m1) (hm : J1 6 12 = m1) (hv : 0 ≤ v ∧ v < 8) (ht : 0 ≤ t ∧ t < m1) (e : J1 7 t = -1 - v) (p : madeP J1 m1 (-1 - v) (-1) (-1) (-1) z J2) : z = t ∧ A0 J2 G ∧ ofi G (-1 - v) 0 0 0 = t := by
  have ar : arh (J1 3) (-1 - v) = 0 := by unfold arh; rw [if_pos (by omega)]
  have h3 := C.told
  have hh : -1 - v < J1 1 3 := by omega
  have i : isT J1 t (-1 - v) 0 0 0 := ⟨e, fun y => by omega, fun y => by omega, fun y => by omega⟩
  have f := E.fnd h0 C hm hh ht i
  have o : ofi G (-1 - v) 0 0 0 = t := by
    have hA := E.ar hh
    have e6 := E.2.1
    have hx : (0 < arh (J1 3) (-1 - v) → (0 : Int) = 0) ∧ (1 < arh (J1 3) (-1 - v) → (0 : Int) = 0) ∧ (2 < arh (J1 3) (-1 - v) → (0 : Int) = 0) := ⟨fun _ => rfl, fun _ => rfl, fun _ => rfl⟩
    unfold ofi
    refine fnB_eq ht.1 (by omega) (fun t u v => dcB_t (fun k => ?_)) (Or.inr (dcB_f (fun k => k ?_)))
    · rw [hA] at k
      have := isT_u C hh (q := t) (by omega) ht ((E.nm C hm hx (by omega)).1 k) i
      omega
    · rw [hA]
      exact (E.nm C hm hx ht).2 i
  rcases E.made (x := 0) (y := 0) (w := 0) h0 C hm ⟨by omega, hh⟩ ⟨fun q => by omega, fun q => by omega, fun q => by omega⟩ ⟨fun q => by omega, fun q => by omega, fun q => by omega⟩ p with ⟨_, q⟩ | ⟨_, q1, q2, q3⟩
  · rw [f] at q; exact absurd h0 q
  · rw [f] at q2 q3; exact ⟨q3, q2, o⟩
/-- bindings so far, in the class -/
def BST (m0 : Int) (T sh lv ρ : Int → Int) (bs : Int) (S J1 : zJ) (m1 v : Int) : Prop := (bnO ρ bs S v.toNat) 164 21 = 0 ∧ A0 J1 (bnO ρ bs S v.toNat) ∧ RW (J1 19) ((bnO ρ bs S v.toNat) 165) ∧ SLV m0 T sh lv ρ J1 m1 ∧ nNO m0 J1
theorem SLV.v9 {m0 m k z : Int} {T sh lv ρ : Int → Int} {J : zJ} (h : SLV m0 T sh lv ρ J m) : SLV m0 T sh lv ρ (zup J 19 k z) m := h.e ⟨h.1, fun _ _ => rfl, fun _ _ => ⟨rfl, rfl, rfl, rfl⟩⟩ (fun q hq => zup_nc (by omega))
theorem A0.r5 {J G : zJ} {q z : Int} (E : A0 J G) (hq : ¬ q = 0) : A0 J (zup G 165 q z) := E.g (zup_ne (fun e => hq e.symm)) (zOf.up rfl zOf.rf)
theorem BST.no {m0 bs m1 v : Int} {T sh lv ρ : Int → Int} {S J1 : zJ} (B : BST m0 T sh lv ρ bs S J1 m1 v) (hv : 0 ≤ v ∧ v < 8) (l : LI (J1 19) m1) (b : ¬ bt bs v) : BST m0 T sh lv ρ bs S (zup J1 19 (7 + v) (-1)) m1 (v + 1) := by
  obtain ⟨f, E, W, V, N⟩ := B
  have en : ((v.toNat : Nat) : Int) = v := by omega
  have e : bnO ρ bs S (v + 1).toNat = zup (bnO ρ bs S v.toNat) 165 (1 + v) 0 := by
    rw [show (v + 1).toNat = v.toNat + 1 from by omega, bnO_s, en, bn1_n f b]
  unfold BST
  rw [e]
  refine ⟨by rw [zup_nc (by decide)]; exact f, (E.r5 (by omega)).f (fun c hc => zup_nc (by omega)), ?_, V.v9, N⟩
  have wb := W.b l
  exact W.bd (t := -1) hv ⟨wb.1.2, wb.2.1.2, wb.2.2.2⟩
theorem BST.yes {m0 bs m1 m3 v x z : Int} {T sh lv ρ : Int → Int} {S J1 J3 : zJ} (B : BST m0 T sh lv ρ bs S J1 m1 v) (hv : 0 ≤ v ∧ v < 8) (l : LI (J1 19) m1) (b : bt bs v) (ho : ofi (bnO ρ bs S v.toNat) (-1 - v) 0 0 0 = x) (hz : z = -3 ∨ -1 ≤ z) (e : BNX m0 ρ (zup (bnO ρ bs S v.toNat) 165 (1 + v) 0) x z J3) (r : J3 19 = J1 19) (V3 : SLV m0 T sh lv ρ J3 m3) : (z = -3 → ¬ (bnO ρ bs S 8) 164 21 = 0) ∧ (¬ z = -3 → BST m0 T sh lv ρ bs S (zup J3 19 (7 + v) z) m3 (v + 1)) := by
  obtain ⟨f, E, W, V, N⟩ := B
  have en : ((v.toNat : Nat) : Int) = v := by omega
  have wb := W.b l
  have e9 : (v + 1).toNat = v.toNat + 1 := by omega
  rcases e with ⟨y1, y2, y3, y4⟩ | ⟨y1, y⟩
  · have g : bnO ρ bs S (v + 1).toNat = zup (bnO ρ bs S v.toNat) 165 (1 + v) 0 := by
      rw [e9, bnO_s, en, bn1_i f b (by rw [ho]; exact y1)]
    refine ⟨fun q => by omega, fun _ => ?_⟩
    unfold BST
    rw [g]
    refine ⟨by rw [zup_nc (by decide)]; exact f, y3.f (fun c hc => zup_nc (by omega)), ?_, V3.v9, y4⟩
    rw [y2]
    have q := W.bd (t := -1) hv ⟨wb.1.2, wb.2.1.2, wb.2.2.2⟩
    rw [← r] at q
    exact q
  · have g : bnO ρ bs S (v + 1).toNat = zup (grO ρ 6 (zup (bnO ρ bs S v.toNat) 165 (1 + v) 0) x).1 165 (1 + v) (1 + (grO ρ 6 (zup (bnO ρ bs S v.toNat) 165 (1 + v) 0) x).2) := by
      rw [e9, bnO_s, en, bn1_g f b (by rw [ho]; exact y1), ho]
    rcases y with ⟨y2, y3⟩ | ⟨y2, y3, y4, y5, y6⟩
    · refine ⟨fun _ => ?_, fun q => absurd y2 q⟩
      have n : ¬ (bnO ρ bs S (v + 1).toNat) 164 21 = 0 := by rw [g, zup_nc (by decide)]; exact y3
      obtain ⟨j, hj⟩ : ∃ j : Nat, 8 = (v + 1).toNat + j := ⟨8 - (v + 1).toNat, by omega⟩
      rw [hj, bnO_f n j]
      exact n
    · refine ⟨fun q => by omega, fun _ => ?_⟩
      unfold BST
      rw [g]
      refine ⟨by rw [zup_nc (by decide)]; exact y3, (y4.r5 (by omega)).f (fun c hc => zup_nc (by omega)), ?_, V3.v9, y6⟩
      have q := W.bd (t := z) hv ⟨wb.1.2, wb.2.1.2, wb.2.2.2⟩
      rw [← r] at q
      obtain ⟨⟨a1, a2, a3⟩, ⟨b1, b2⟩, ⟨c1, c2⟩, ⟨d1, d2⟩, w⟩ := q
      have x5 : ∀ k, ¬ k = 0 → zup (grO ρ 6 (zup (bnO ρ bs S v.toNat) 165 (1 + v) 0) x).1 165 (1 + v) (1 + (grO ρ 6 (zup (bnO ρ bs S v.toNat) 165 (1 + v) 0) x).2) 165 k = if k = 1 + v then z + 1 else (bnO ρ bs S v.toNat) 165 k := fun k hk => by
        show (if k = 1 + v then 1 + (grO ρ 6 (zup (bnO ρ bs S v.toNat) 165 (1 + v) 0) x).2 else (grO ρ 6 (zup (bnO ρ bs S v.toNat) 165 (1 + v) 0) x).1 165 k) = _
        by_cases w : k = 1 + v
        · rw [if_pos w, if_pos w, ← y5]; omega
        · rw [if_neg w, if_neg w, grO_5 6 _ _ k hk, zup_ne w]
      dsimp only at a1 a2 a3 b1 b2 c1 c2 d1 d2 w
      have k9 : (if (9 : Int) = 1 + v then z + 1 else (bnO ρ bs S v.toNat) 165 9) = (bnO ρ bs S v.toNat) 165 9 := if_neg (by omega)
      have k26 : (if (26 : Int) = 1 + v then z + 1 else (bnO ρ bs S v.toNat) 165 26) = (bnO ρ bs S v.toNat) 165 26 := if_neg (by omega)
      have k40 : (if (40 : Int) = 1 + v then z + 1 else (bnO ρ bs S v.toNat) 165 40) = (bnO ρ bs S v.toNat) 165 40 := if_neg (by omega)
      refine ⟨⟨?_, ?_, ?_⟩, ⟨?_, fun i p q => ?_⟩, ⟨?_, fun i p q => ?_⟩, ⟨?_, fun i p q => ?_⟩, fun i p q => ?_⟩
      · rw [x5 _ (by decide)]; exact a1
      · rw [x5 _ (by decide)]; exact a2
      · rw [x5 _ (by decide)]; exact a3
      · rw [x5 _ (by decide)]; exact b1
      · rw [x5 _ (by decide)] at q; rw [x5 _ (by omega), x5 _ (by omega)]; exact b2 i p q
      · rw [x5 _ (by decide)]; exact c1
      · rw [x5 _ (by decide)] at q; rw [x5 _ (by omega)]; exact c2 i p q
      · rw [x5 _ (by decide)]; exact d1
      · rw [x5 _ (by decide)] at q; rw [x5 _ (by omega), x5 _ (by omega)]; exact d2 i p q
      · rw [x5 _ (by omega)]; exact w i p q
theorem BST.is {m0 bs m1 v m2 : Int} {T sh lv ρ : Int → Int} {S J1 J2 : zJ} (B : BST m0 T sh lv ρ bs S J1 m1 v) (g : GR J2 J1 m1 m2) (hm : m0 ≤ m1) (hU : UI J1 0 m1) (E : A0 J2 (bnO ρ bs S v.toNat)) : SLV m0 T sh lv ρ J2 m2 ∧ nNO m0 J2 ∧ A0 J2 (zup (bnO ρ bs S v.toNat) 165 (1 + v) 0) ∨ v < 0 := by
  by_cases q : v < 0
  · exact Or.inr q
  · exact Or.inl ⟨B.2.2.2.1.made hm (Or.inr (fun y a c e => by have := ((hU y a c).2 (by rw [e])).2.2.2.1.z; exact this)) g, B.2.2.2.2.made g, E.r5 (by omega)⟩
end
section
/-! ===== unify of the class, exact ===== -/
theorem bt_01 {a v : Int} : zand (zshr a v) 1 = 0 ∨ bt a v := by
  unfold bt zand zshr
  simp only [Int32.ofInt_toInt]
  rw [show Int32.ofInt 1 = 1 from rfl]
  rcases i1_01 (Int32.ofInt a >>> (Int32.ofInt v &&& 31)) with h | h
  · exact Or.inl (by rw [h]; rfl)
  · exact Or.inr (by rw [h]; rfl)
set_option maxHeartbeats 4000000 in
set_option maxRecDepth 100000 in
theorem u_boundOf {l : Launch} {G : tb_G} (hl : l.stackTraces = false) (n : Nat) (J : zJ) (x : Int) (hr_x : -2147483648 ≤ x ∧ x < 2147483648) (m0 : Int) (T sh lvv ρ : Int → Int) (m : Int) (C : CT J m) (hm : J 6 12 = m) (hU : UI J 0 m) (hm0 : m0 ≤ m) (hx : VN 400 m0 x) (hxv : J 7 x < 0) (hV : SLV m0 T sh lvv ρ J m) (hC : CRO m0 T sh lvv ρ J) : tz_Ok l G M_X10_boundOf 21 0 0 [.ref 145, zi x] n J (zqi (fun z J' => ∃ m', UG J' J m m' ∧ (z = -3 ∨ (-1 ≤ z ∧ z < m')) ∧ SLV m0 T sh lvv ρ J' m' ∧ ∀ S, S 164 21 = 0 → A0 J S → nNO m0 J → BNX m0 ρ S x z J')) zN := by
  refine tz_Ok.of hl (by decide +kernel) rfl (tb_c1 rfl) (Nat.le_of_ble_eq_true rfl) ?_
  show tz_At l G M_X10_boundOf (tb_rm 21 0 0) none (tb_ZM G 0 0 (zQ n 0 (zqi (fun z J' => ∃ m', UG J' J m m' ∧ (z = -3 ∨ (-1 ≤ z ∧ z < m')) ∧ SLV m0 T sh lvv ρ J' m' ∧ ∀ S, S 164 21 = 0 → A0 J S → nNO m0 J → BNX m0 ρ S x z J'))) (zX n 0 zN)) 0 0 n J 0 [some (.ref 145), some (zi x), none] []
  have hb := C.told
  have hxz := hx.z
  refine tz_iload_n (pc := 0) dX10_boundOf_0 rfl rfl ?_
  refine tz_if_ge (pc := 1) (tgt := 7) dX10_boundOf_1 (by decide) (by omega) (fun h_1 => ?_) (fun h_1 => ?_)
  · refine tz_aload_n (pc := 7) dX10_boundOf_7 rfl rfl ?_
    refine tz_iload_n (pc := 8) dX10_boundOf_8 rfl rfl ?_
    refine tz_cV (pc := 9) (u_topM hl n _ _ (by omega) 0 m 400 m0 hb.2 (Or.inl (by omega)) hU hV.1 (Or.inl rfl) hx) vl_X10_54 dX10_boundOf_9 o_145 rfl rfl (Nat.le_of_ble_eq_true rfl) ⟨(Nat.le_of_ble_eq_true rfl), (Nat.le_of_ble_eq_true rfl)⟩ rfl rfl (Nat.le_of_ble_eq_true rfl) (Nat.le_of_ble_eq_true rfl) (fun r9 J9 hq9 => ?_)
    obtain ⟨z9, rfl, hz_9, ⟨u_9, ⟨v_9, w_9⟩, f_9⟩, e_9, t_9⟩ := hq9
    have q_9 := UG.top (UG.rf C hm hU) u_9 f_9
    have l_9 := hV.e e_9 (fun q hq => f_9 q (by simp [zbut]; omega))
    have o_9 : z9 = T x := by rw [t_9, (hV.2.1 x hx).1]
    have x_9 := hC.1 x hx
    rw [← o_9] at x_9
    have ax9 : J9 146 z9 = J9 145 10 := by rw [w_9, u_9.2.1]
    have c9 : CRO m0 T sh lvv ρ J9 := hC.gj (m' := m) hm0 q_9.1.2.2.2.1
    have sh9 : J9 148 z9 = sh z9 := by rw [← (l_9.2.1 z9 x_9.1).2.1]; unfold usV; rw [if_pos ax9]
    refine tz_istore_n (pc := 12) (L2 := [_, _, _]) dX10_boundOf_12 rfl (by decide) rfl ?_
    have hu9 := u_9.at hb.2 v_9 w_9
    have hv9 := v_9.z
    have hl9 := hu9.2.2.2.1.z
    have hs9 := hu9.2.2.1
    refine tz_aload_n (pc := 13) dX10_boundOf_13 rfl rfl ?_
    refine tz_fR (pc := 14) dX10_boundOf_14 fl_X10_18 r_145_3 ?_
    refine tz_iload_n (pc := 17) dX10_boundOf_17 rfl rfl ?_
    refine tz_aL (pc := 18) (z := z9) (v := (J9 148 z9)) dX10_boundOf_18 a_148 rfl (by omega) rfl (fun r_18 => ?_)
    refine tz_iconst (pc := 19) dX10_boundOf_19 ?_
    refine tz_icmp_eq (pc := 20) (tgt := 30) dX10_boundOf_20 (by decide) (by omega) (by decide) (fun h_20 => ?_) (fun h_20 => ?_)
    · refine tz_aload_n (pc := 30) dX10_boundOf_30 rfl rfl ?_
      refine tz_fR (pc := 31) dX10_boundOf_31 fl_X10_21 r_145_4 ?_
      refine tz_iload_n (pc := 34) dX10_boundOf_34 rfl rfl ?_
      refine tz_aL (pc := 35) (z := z9) (v := (J9 149 z9)) dX10_boundOf_35 a_149 rfl (by omega) rfl (fun r_35 => ?_)
      refine tz_iload_n (pc := 36) dX10_boundOf_36 rfl rfl ?_
      refine tz_icmp_ne (pc := 37) (tgt := 44) dX10_boundOf_37 (by decide) (by omega) (by omega) (fun h_37 => ?_) (fun h_37 => ?_)
      · refine tz_aload_n (pc := 44) dX10_boundOf_44 rfl rfl ?_
        refine tz_fR (pc := 45) dX10_boundOf_45 fl_X10_21 r_145_4 ?_
        refine tz_iload_n (pc := 48) dX10_boundOf_48 rfl rfl ?_
        refine tz_aL (pc := 49) (z := z9) (v := (J9 149 z9)) dX10_boundOf_49 a_149 rfl (by omega) rfl (fun r_49 => ?_)
        exact tz_iret (pc := 50) (z := (J9 149 z9)) dX10_boundOf_50 rfl (Nat.le_of_ble_eq_true rfl) (Nat.le_of_ble_eq_true rfl) ⟨Nat.le_refl _, Nat.le_add_right _ _⟩ ⟨_, rfl, (by omega), (by have cr9 := (c9.2 z9 x_9.1 x_9.2.1).1 (by rw [← sh9]; omega); have lv9 := (l_9.2.1 z9 x_9.1).2.2; have l8 : ulV J9 z9 = -1 - J9 7 (J9 149 z9) := (by unfold ulV; rw [if_pos ax9]; unfold tm; rw [if_pos (by omega)]); have e9 : J9 149 z9 = ρ z9 := ct_vu q_9.1.2.1 hl9 (by have := cr9.1.z; omega) (by omega) (by omega); have r9 := x_9.2.2; have p9 := cr9.1.z; exact ⟨m, q_9, by omega, l_9, fun S hS E N => bnx_v hS (E.f (fun c hc => f_9 c (by simp [zbut]; omega))) (N.e e_9) (by have t9 := (E.tm C hm (t := ρ x) (by omega)).1; have q8 := cr9.2.1; rw [← r9, f_9 7 rfl] at q8; omega) (by omega) (by omega)⟩)⟩
      · refine tz_iconst (pc := 40) dX10_boundOf_40 ?_
        refine tz_goto (pc := 41) (tgt := 50) dX10_boundOf_41 (by decide) ?_
        exact tz_iret (pc := 50) (z := (-1)) dX10_boundOf_50 rfl (Nat.le_of_ble_eq_true rfl) (Nat.le_of_ble_eq_true rfl) ⟨Nat.le_refl _, Nat.le_add_right _ _⟩ ⟨_, rfl, (by decide), (by have cr9 := (c9.2 z9 x_9.1 x_9.2.1).1 (by rw [← sh9]; omega); have lv9 := (l_9.2.1 z9 x_9.1).2.2; have l8 : ulV J9 z9 = -1 - J9 7 (J9 149 z9) := (by unfold ulV; rw [if_pos ax9]; unfold tm; rw [if_pos (by omega)]); have e9 : J9 149 z9 = ρ z9 := ct_vu q_9.1.2.1 hl9 (by have := cr9.1.z; omega) (by omega) (by omega); have r9 := x_9.2.2; have p9 := cr9.1.z; exact ⟨m, q_9, by omega, l_9, fun S hS E N => bnx_v hS (E.f (fun c hc => f_9 c (by simp [zbut]; omega))) (N.e e_9) (by have t9 := (E.tm C hm (t := ρ x) (by omega)).1; have q8 := cr9.2.1; rw [← r9, f_9 7 rfl] at q8; omega) (by omega) (by omega)⟩)⟩
    · refine tz_aload_n (pc := 23) dX10_boundOf_23 rfl rfl ?_
      refine tz_iload_n (pc := 24) dX10_boundOf_24 rfl rfl ?_
      refine tz_iconst (pc := 25) dX10_boundOf_25 ?_
      have cr9 := (c9.2 z9 x_9.1 x_9.2.1).2 (by rw [← sh9]; omega)
      refine tz_cV (pc := 26) (u_solvedClass hl n 7 _ _ _ (by omega) (by omega) m0 T sh lvv ρ m q_9.1.2.1 q_9.1.2.2.1 u_9.1 hm0 x_9.1 l_9 c9 ax9 x_9.2.1 (by decide)) vl_X10_102 dX10_boundOf_26 o_145 rfl rfl (Nat.le_of_ble_eq_true rfl) ⟨(Nat.le_of_ble_eq_true rfl), (Nat.le_of_ble_eq_true rfl)⟩ rfl rfl (Nat.le_of_ble_eq_true rfl) (Nat.le_of_ble_eq_true rfl) (fun r9 J_26 hq9 => ?_)
      obtain ⟨z_26, rfl, hz_26, m1, g1, h1, l1, gc1, ex1⟩ := hq9
      exact tz_iret (pc := 29) (z := z_26) dX10_boundOf_29 rfl (Nat.le_of_ble_eq_true rfl) (Nat.le_of_ble_eq_true rfl) ⟨Nat.le_refl _, Nat.le_add_right _ _⟩ ⟨_, rfl, (by omega), ⟨m1, q_9.tr g1, by omega, l1, fun S hS E N => bnx_s g1.1.2.1 h1 (ex1 S hS (E.f (fun c hc => f_9 c (by simp [zbut]; omega))) (N.e e_9)) x_9.2.2 (fun q9 => by rw [x_9.2.2, cr9.2.2] at q9; have c8 := cr9.2.1; rw [q9, f_9 7 rfl] at c8; omega)⟩⟩
  · refine tz_bipush (pc := 4) dX10_boundOf_4 (by decide) ?_
    exact tz_iret (pc := 6) (z := (-3)) dX10_boundOf_6 rfl (Nat.le_of_ble_eq_true rfl) (Nat.le_of_ble_eq_true rfl) ⟨Nat.le_refl _, Nat.le_add_right _ _⟩ ⟨_, rfl, (by decide), (by exfalso; omega)⟩

set_option maxHeartbeats 4000000 in
set_option maxRecDepth 100000 in
theorem u_bindAll {l : Launch} {G : tb_G} (hl : l.stackTraces = false) (n : Nat) (J : zJ) (bs : Int) (hr_bs : -2147483648 ≤ bs ∧ bs < 2147483648) (T sh lvv ρ : Int → Int) (S : zJ) (m : Int) (C : CT J m) (hm : J 6 12 = m) (hU : UI J 0 m) (hL : LI (J 19) m) (h0 : 0 ≤ J 145 10) (hS : S 164 21 = 0) (E : A0 J S) (W : RW (J 19) (S 165)) (hV : SLV m T sh lvv ρ J m) (hC : CRO m T sh lvv ρ J) (N : nNO m J) (hbv : ∀ v, 0 ≤ v → v < 8 → bt bs v → ∃ t, (0 ≤ t ∧ t < m) ∧ J 7 t = -1 - v) : tz_Ok l G M_X10_bindAll 22 0 0 [.ref 145, zi bs, .ref 19, zi 7] n J (zqi (fun z J' => ∃ m', GX [19, 146, 147, 148, 149, 150, 154] J' J m m' ∧ RU J' ∧ LI (J' 19) m' ∧ (z = -3 ∨ z = 1) ∧ ((z = -3 ∧ ¬ (bnO ρ bs S 8) 164 21 = 0) ∨ (0 ≤ z ∧ (bnO ρ bs S 8) 164 21 = 0 ∧ A0 J' (bnO ρ bs S 8) ∧ z = 1 ∧ RW (J' 19) ((bnO ρ bs S 8) 165))))) zN := by
  refine tz_Ok.of hl (by decide +kernel) rfl (tb_c1 rfl) (Nat.le_of_ble_eq_true rfl) ?_
  show tz_At l G M_X10_bindAll (tb_rm 22 0 0) none (tb_ZM G 0 0 (zQ n 0 (zqi (fun z J' => ∃ m', GX [19, 146, 147, 148, 149, 150, 154] J' J m m' ∧ RU J' ∧ LI (J' 19) m' ∧ (z = -3 ∨ z = 1) ∧ ((z = -3 ∧ ¬ (bnO ρ bs S 8) 164 21 = 0) ∨ (0 ≤ z ∧ (bnO ρ bs S 8) 164 21 = 0 ∧ A0 J' (bnO ρ bs S 8) ∧ z = 1 ∧ RW (J' 19) ((bnO ρ bs S 8) 165)))))) (zX n 0 zN)) 0 0 n J 0 [some (.ref 145), some (zi bs), some (.ref 19), some (zi 7), none, none] []
  have hb := C.told
  refine tz_iconst (pc := 0) dX10_bindAll_0 ?_
  refine tz_istore (pc := 1) (L2 := [_, _, _, _, _, _]) dX10_bindAll_1 (by decide) rfl ?_
  have loop3 : ∀ (f9 : Nat) (v : Int) (d5 : Option Value) (J1 : zJ) (m1 : Int), ((8 - v).toNat) < f9 → (0 ≤ v ∧ v ≤ 8) → (GX [19, 146, 147, 148, 149, 150, 154] J1 J m m1) → (UI J1 0 m1) → (LI (J1 19) m1) → (BST m T sh lvv ρ bs S J1 m1 v) → tz_At l G M_X10_bindAll (tb_rm 22 0 0) none (tb_ZM G 0 0 (zQ n 0 (zqi (fun z J' => ∃ m', GX [19, 146, 147, 148, 149, 150, 154] J' J m m' ∧ RU J' ∧ LI (J' 19) m' ∧ (z = -3 ∨ z = 1) ∧ ((z = -3 ∧ ¬ (bnO ρ bs S 8) 164 21 = 0) ∨ (0 ≤ z ∧ (bnO ρ bs S 8) 164 21 = 0 ∧ A0 J' (bnO ρ bs S 8) ∧ z = 1 ∧ RW (J' 19) ((bnO ρ bs S 8) 165)))))) (zX n 0 zN)) 0 0 n J1 3 [some (.ref 145), some (zi bs), some (.ref 19), some (zi 7), some (zi v), d5] [] := by
    intro f9
    induction f9 with
    | zero => intro v d5 J1 m1 hm9; exact absurd hm9 (Nat.not_lt_zero _)
    | succ f9 ih3 =>
      intro v d5 J1 m1 hm3 hv g1 u1 l1 B1
      have b1 := g1.2.1.told
      have e1 := congrFun (g1.2.2.2.2 145 rfl) 10
      refine tz_iload (pc := 3) dX10_bindAll_3 rfl ?_
      refine tz_bipush (pc := 5) dX10_bindAll_5 (by decide) ?_
      refine tz_icmp_ge (pc := 7) (tgt := 62) dX10_bindAll_7 (by decide) (by omega) (by decide) (fun h_7 => ?_) (fun h_7 => ?_)
      · refine tz_iconst (pc := 62) dX10_bindAll_62 ?_
        exact tz_iret (pc := 63) (z := 1) dX10_bindAll_63 rfl (Nat.le_of_ble_eq_true rfl) (Nat.le_of_ble_eq_true rfl) ⟨Nat.le_refl _, Nat.le_add_right _ _⟩ ⟨_, rfl, (by decide), (by have v9 : v.toNat = 8 := (by omega); obtain ⟨f9, a9, w9, _, _⟩ := B1; rw [v9] at f9 a9 w9; exact ⟨m1, g1, u1.rest (by omega), l1, by omega, Or.inr ⟨by decide, f9, a9, rfl, w9⟩⟩)⟩
      · refine tz_iload_n (pc := 10) dX10_bindAll_10 rfl rfl ?_
        refine tz_iload (pc := 11) dX10_bindAll_11 rfl ?_
        refine tz_ishr (pc := 13) (v := zshr bs v) dX10_bindAll_13 rfl ?_
        have r_13 := zshr_rg bs v
        refine tz_iconst (pc := 14) dX10_bindAll_14 ?_
        refine tz_iand (pc := 15) (v := zand (zshr bs v) 1) dX10_bindAll_15 rfl ?_
        refine tz_if_ne (pc := 16) (tgt := 23) dX10_bindAll_16 (by decide) (zand_rg _ _) (fun h_16 => ?_) (fun h_16 => ?_)
        · refine tz_aload_n (pc := 23) dX10_bindAll_23 rfl rfl ?_
          refine tz_aload_n (pc := 24) dX10_bindAll_24 rfl rfl ?_
          refine tz_fR (pc := 25) dX10_bindAll_25 fl_X10_46 r_145_0 ?_
          refine tz_iload (pc := 28) dX10_bindAll_28 rfl ?_
          have bt9 : bt bs v := bt_01.resolve_left (by omega)
          obtain ⟨t9, th9, te9⟩ := hbv v (by omega) (by omega) bt9
          have lm9 := g1.1
          refine tz_cV (pc := 30) (c_varTerm hl n _ _ (by omega) m1 g1.2.1 g1.2.2.1 (by omega)) vl_X10_96 dX10_bindAll_30 o_6 rfl rfl (Nat.le_of_ble_eq_true rfl) ⟨(Nat.le_of_ble_eq_true rfl), (Nat.le_of_ble_eq_true rfl)⟩ rfl rfl (Nat.le_of_ble_eq_true rfl) (Nat.le_of_ble_eq_true rfl) (fun r9 J_30 hq9 => ?_)
          obtain ⟨z_30, rfl, hz_30, p_30⟩ := hq9
          obtain ⟨m4, g4, h9⟩ := GR.made p_30 b1.2.1
          obtain ⟨zt9, A9, of9⟩ := bst_v B1.2.1 B1.1 g1.2.1 g1.2.2.1 (by omega) (t := t9) (by omega) (by rw [(g1.2.2.2.1.1 t9 th9.1 th9.2).1]; exact te9) p_30
          have bi9 := (B1.is g4 lm9 u1 A9).resolve_right (by omega)
          have lm8 := g4.1
          have cr9 := hC.gj (m' := m) (Int.le_refl _) ((g4.2.2.2.1.cut lm9).tr g1.2.2.2.1)
          have v79 : J_30 7 z_30 < 0 := by rw [zt9, (g4.2.2.2.1.1 t9 (by omega) (by omega)).1, (g1.2.2.2.1.1 t9 th9.1 th9.2).1, te9]; omega
          refine tz_cV (pc := 33) (u_boundOf hl n _ _ (by omega) m T sh lvv ρ m4 g4.2.1 g4.2.2.1 (UG.made0 u1 g4) (by omega) (by rw [zt9]; exact ⟨by omega, by omega⟩) v79 bi9.1 cr9) vl_X10_99 dX10_bindAll_33 o_145 rfl rfl (Nat.le_of_ble_eq_true rfl) ⟨(Nat.le_of_ble_eq_true rfl), (Nat.le_of_ble_eq_true rfl)⟩ rfl rfl (Nat.le_of_ble_eq_true rfl) (Nat.le_of_ble_eq_true rfl) (fun r9 J_33 hq9 => ?_)
          obtain ⟨z_33, rfl, hz_33, m5, h4, h5, V5, x5⟩ := hq9
          have g5 := GX.b (g1.tr g4.x) h4
          have r19 : J_33 19 = J1 19 := by rw [h4.1.2.2.2.2 19 rfl, g4.2.2.2.2 19 rfl]
          have l5 : LI (J_33 19) m5 := by rw [r19]; exact l1.mono (by have := g4.1; have := h4.1.1; omega)
          have b5 := g5.2.1.told
          have b9 := B1.yes (m3 := m5) (by omega) l1 bt9 (of9.trans zt9.symm) (by omega) (x5 _ (by rw [zup_nc (by decide)]; exact B1.1) bi9.2.2 bi9.2.1) r19 V5
          refine tz_istore (pc := 36) (L2 := [_, _, _, _, _, _]) dX10_bindAll_36 (by decide) rfl ?_
          refine tz_iload (pc := 38) dX10_bindAll_38 rfl ?_
          refine tz_bipush (pc := 40) dX10_bindAll_40 (by decide) ?_
          refine tz_icmp_ne (pc := 42) (tgt := 48) dX10_bindAll_42 (by decide) (by omega) (by decide) (fun h_42 => ?_) (fun h_42 => ?_)
          · refine tz_aload_n (pc := 48) dX10_bindAll_48 rfl rfl ?_
            refine tz_iload_n (pc := 49) dX10_bindAll_49 rfl rfl ?_
            refine tz_iload (pc := 50) dX10_bindAll_50 rfl ?_
            refine tz_iadd (pc := 52) (v := 7 + v) dX10_bindAll_52 rfl ?_
            refine tz_iload (pc := 53) dX10_bindAll_53 rfl ?_
            refine tz_aS (pc := 55) (z := (7 + v)) dX10_bindAll_55 a_19 rfl (by omega) (by omega) ?_
            refine tz_iinc (pc := 56) (z := v + 1) (L2 := [_, _, _, _, _, _]) dX10_bindAll_56 rfl (by omega) rfl ?_
            refine tz_goto (pc := 59) (tgt := 3) dX10_bindAll_59 (by decide) ?_
            exact ih3 (v + 1) _ _ m5 (by omega) (by omega) (GX.off g5 rfl (zOf.up rfl zOf.rf)) (h4.2.1.of (Int.le_refl _) rfl (fun c hc => zup_nc (by omega))) (LI.bind l5 (by omega) (by omega)) (b9.2 (by omega))
          · refine tz_bipush (pc := 45) dX10_bindAll_45 (by decide) ?_
            exact tz_iret (pc := 47) (z := (-3)) dX10_bindAll_47 rfl (Nat.le_of_ble_eq_true rfl) (Nat.le_of_ble_eq_true rfl) ⟨Nat.le_refl _, Nat.le_add_right _ _⟩ ⟨_, rfl, (by decide), ⟨m5, g5, h4.2.1.rest (by have := congrFun (g5.2.2.2.2 145 rfl) 10; omega), l5, Or.inl rfl, Or.inl ⟨rfl, b9.1 (by omega)⟩⟩⟩
        · refine tz_iconst (pc := 19) dX10_bindAll_19 ?_
          refine tz_goto (pc := 20) (tgt := 36) dX10_bindAll_20 (by decide) ?_
          refine tz_istore (pc := 36) (L2 := [_, _, _, _, _, _]) dX10_bindAll_36 (by decide) rfl ?_
          refine tz_iload (pc := 38) dX10_bindAll_38 rfl ?_
          refine tz_bipush (pc := 40) dX10_bindAll_40 (by decide) ?_
          refine tz_icmp_neT (pc := 42) (tgt := 48) (by decide) dX10_bindAll_42 (by decide) (by decide) (by decide) ?_
          refine tz_aload_n (pc := 48) dX10_bindAll_48 rfl rfl ?_
          refine tz_iload_n (pc := 49) dX10_bindAll_49 rfl rfl ?_
          refine tz_iload (pc := 50) dX10_bindAll_50 rfl ?_
          refine tz_iadd (pc := 52) (v := 7 + v) dX10_bindAll_52 rfl ?_
          refine tz_iload (pc := 53) dX10_bindAll_53 rfl ?_
          refine tz_aS (pc := 55) (z := (7 + v)) dX10_bindAll_55 a_19 rfl (by omega) (by decide) ?_
          refine tz_iinc (pc := 56) (z := v + 1) (L2 := [_, _, _, _, _, _]) dX10_bindAll_56 rfl (by omega) rfl ?_
          refine tz_goto (pc := 59) (tgt := 3) dX10_bindAll_59 (by decide) ?_
          exact ih3 (v + 1) _ _ m1 (by omega) (by omega) (GX.off g1 rfl (zOf.up rfl zOf.rf)) (u1.of (Int.le_refl _) rfl (fun c hc => zup_nc (by omega))) (LI.bind l1 (by omega) (by omega)) (B1.no (by omega) l1 (by unfold bt; omega))
  exact loop3 _ 0 none _ m (Nat.lt_succ_self _) (by omega) (GX.rf C hm) hU hL ⟨hS, E, W, hV, N⟩

end
section
/-! ===== unify of the class, the call ===== -/
theorem ub_bt {J S : zJ} {m s t : Int} (E : A0 J S) (C : CT J m) (hm : J 6 12 = m) (hs : 0 ≤ s ∧ s < m) (ht : 0 ≤ t ∧ t < m) : ∀ v, 0 ≤ v → v < 8 → (bt (zor (J 13 s) (J 13 t)) v ↔ Occ S 0 0 s v ∨ Occ S 0 0 t v) := fun v a b => by
  rw [bt_or, E.oc C hm hs ⟨a, b⟩, E.oc C hm ht ⟨a, b⟩]
theorem ub_nd {J S : zJ} {m s t : Int} (E : A0 J S) (C : CT J m) (hm : J 6 12 = m) (hs : 0 ≤ s ∧ s < m) (ht : 0 ≤ t ∧ t < m) : ∀ v, 0 ≤ v → v < 8 → bt (zor (J 13 s) (J 13 t)) v → ∃ u, (0 ≤ u ∧ u < m) ∧ J 7 u = -1 - v := fun v a b q => by
  have w := E.tcl C hm
  have x : ∃ u, (0 ≤ u ∧ u < m) ∧ S 166 (0 + u) = -1 - v := ((ub_bt E C hm hs ht v a b).1 q).elim (fun o => o.nd w hs) (fun o => o.nd w ht)
  obtain ⟨u, hu, e⟩ := x
  exact ⟨u, hu, by rw [← (E.tm C hm hu).1]; exact e⟩
theorem uni_slv {J1 Jb : zJ} {m : Int} {ρ : Int → Int} (U : UFp (VN 400 m) (upV J1)) (no : ∀ y, VN 400 m y → uoV J1 y = -1) (f : zOf (zbut [19, 61]) Jb J1) : SLV m (tp (upV J1)) (usV J1) (ulV J1) ρ Jb m ∧ nNO m Jb := by
  have e5 := f 145 rfl
  have e6 := f 146 rfl
  have p : upV Jb = upV J1 := funext fun x => by unfold upV; rw [e5, e6, f 147 rfl]
  have s : usV Jb = usV J1 := funext fun x => by unfold usV; rw [e5, e6, f 148 rfl, f 7 rfl]
  have v : ulV Jb = ulV J1 := funext fun x => by unfold ulV; rw [e5, e6, f 149 rfl, f 7 rfl]
  have u : uoV Jb = uoV J1 := funext fun x => by unfold uoV; rw [e5, e6, f 150 rfl]
  refine ⟨⟨by rw [p]; exact U, fun x _ => by rw [p, s, v]; exact ⟨rfl, rfl, rfl⟩, fun x hx _ w => ?_⟩, fun x hx => ?_⟩
  · rw [u, no x hx] at w; omega
  · rw [u, no x hx]; omega
theorem uni_no {S : zJ} {m s t z : Int} {p sh lv : Int → Int} (q : UPO 400 m 0 0 S s t p sh lv z) (h : ¬ z = 1) : (¬ UEX S m s t ∧ z = 0) ∨ (UEX S m s t ∧ ¬ NRQ S m s t ∧ z = 2) := by
  rcases q with ⟨a, b⟩ | ⟨a, _, _, _, b⟩
  · exact Or.inl ⟨b, a⟩
  · rcases b with ⟨b, _⟩ | ⟨b, c⟩
    · exact absurd b h
    · exact Or.inr ⟨a, c, b⟩
theorem uni_yes {S : zJ} {m s t z : Int} {p sh lv : Int → Int} (q : UPO 400 m 0 0 S s t p sh lv z) (h : z = 1) : UEX S m s t ∧ NRQ S m s t ∧ UFp (VN 400 m) p ∧ SHp (VN 400 m) (hdN S 0) p sh lv ∧ ∀ u v, VN 400 m u → VN 400 m v → (tp p u = tp p v ↔ LCu (VN 400 m) (hdN S 0) (arN S 0 0) (agN S 0) s t u v) := by
  rcases q with ⟨a, b⟩ | ⟨a, U, H, K, b⟩
  · omega
  · rcases b with ⟨_, c⟩ | ⟨b, _⟩
    · exact ⟨a, c, U, H, K⟩
    · omega
set_option maxHeartbeats 4000000 in
set_option maxRecDepth 100000 in
theorem v_unify {l : Launch} {G : tb_G} (hl : l.stackTraces = false) (n : Nat) (J : zJ) (s : Int) (t : Int) (hr_s : -2147483648 ≤ s ∧ s < 2147483648) (hr_t : -2147483648 ≤ t ∧ t < 2147483648) (m : Int) (S : zJ) (pn : Int) (RR : Int → Int → Int) (hI : CI J m) (h9 : J 145 10 < 1000000000) (cc : CAL J S pn RR) (h21 : S 164 21 = 0) : tz_Ok l G M_X11_unify 23 0 0 [.ref 0, zi s, zi t] n J (zqi (fun z J' => CQ J' J ∧ ((((0 ≤ s ∧ s < J 6 12) ∧ (0 ≤ t ∧ t < J 6 12)) ∧ UEX S m s t ∧ NRQ S m s t ∧ ∃ ρ bs, GSOL S m s t ρ ∧ (∀ v, 0 ≤ v → v < 8 → (bt bs v ↔ Occ S 0 0 s v ∨ Occ S 0 0 t v)) ∧ ED S pn RR (bnO ρ bs S 8, 1) J' z) ∨ (((0 ≤ s ∧ s < J 6 12) ∧ (0 ≤ t ∧ t < J 6 12)) ∧ ¬ UEX S m s t ∧ z = 0 ∧ CAL J' S pn RR) ∨ (((0 ≤ s ∧ s < J 6 12) ∧ (0 ≤ t ∧ t < J 6 12)) ∧ UEX S m s t ∧ ¬ NRQ S m s t ∧ z = 2 ∧ CAL J' S pn RR) ∨ (¬ ((0 ≤ s ∧ s < J 6 12) ∧ (0 ≤ t ∧ t < J 6 12)) ∧ z = -1 ∧ CAL J' S pn RR)))) zN := by
  refine tz_Ok.of hl (by decide +kernel) rfl (tb_c1 rfl) (Nat.le_of_ble_eq_true rfl) ?_
  show tz_At l G M_X11_unify (tb_rm 23 0 0) none (tb_ZM G 0 0 (zQ n 0 (zqi (fun z J' => CQ J' J ∧ ((((0 ≤ s ∧ s < J 6 12) ∧ (0 ≤ t ∧ t < J 6 12)) ∧ UEX S m s t ∧ NRQ S m s t ∧ ∃ ρ bs, GSOL S m s t ρ ∧ (∀ v, 0 ≤ v → v < 8 → (bt bs v ↔ Occ S 0 0 s v ∨ Occ S 0 0 t v)) ∧ ED S pn RR (bnO ρ bs S 8, 1) J' z) ∨ (((0 ≤ s ∧ s < J 6 12) ∧ (0 ≤ t ∧ t < J 6 12)) ∧ ¬ UEX S m s t ∧ z = 0 ∧ CAL J' S pn RR) ∨ (((0 ≤ s ∧ s < J 6 12) ∧ (0 ≤ t ∧ t < J 6 12)) ∧ UEX S m s t ∧ ¬ NRQ S m s t ∧ z = 2 ∧ CAL J' S pn RR) ∨ (¬ ((0 ≤ s ∧ s < J 6 12) ∧ (0 ≤ t ∧ t < J 6 12)) ∧ z = -1 ∧ CAL J' S pn RR))))) (zX n 0 zN)) 0 0 n J 0 [some (.ref 0), some (zi s), some (zi t), none, none] []
  have hC := hI.1.1.1
  have hm := hI.1.1.2.1
  have hL := hI.1.1.2.2
  have hb := hC.told
  have wb := cc.2.1.b hL
  refine tz_aload_n (pc := 0) dX11_unify_0 rfl rfl ?_
  refine tz_fR (pc := 1) dX11_unify_1 fl_X11_29 r_0_1 ?_
  refine tz_fR (pc := 4) dX11_unify_4 fl_X11_49 r_5_0 ?_
  refine tz_iload_n (pc := 7) dX11_unify_7 rfl rfl ?_
  refine tz_cV (pc := 8) (c_has hl n _ _ (by omega)) vl_X11_304 dX11_unify_8 o_6 rfl rfl (Nat.le_of_ble_eq_true rfl) ⟨(Nat.le_of_ble_eq_true rfl), (Nat.le_of_ble_eq_true rfl)⟩ rfl rfl (Nat.le_of_ble_eq_true rfl) (Nat.le_of_ble_eq_true rfl) (fun r9 J_8 hq9 => ?_)
  obtain ⟨z_8, rfl, hz_8, rfl, rfl⟩ := hq9
  by_cases hw_11 : 0 ≤ s ∧ s < J 6 12
  · rw [show (if 0 ≤ s ∧ s < J 6 12 then 1 else 0 : Int) = 1 from if_pos hw_11]
    refine tz_if_eqF (pc := 11) (tgt := 28) (by decide) dX11_unify_11 (by decide) (by decide) ?_
    refine tz_aload_n (pc := 14) dX11_unify_14 rfl rfl ?_
    refine tz_fR (pc := 15) dX11_unify_15 fl_X11_29 r_0_1 ?_
    refine tz_fR (pc := 18) dX11_unify_18 fl_X11_49 r_5_0 ?_
    refine tz_iload_n (pc := 21) dX11_unify_21 rfl rfl ?_
    refine tz_cV (pc := 22) (c_has hl n _ _ (by omega)) vl_X11_304 dX11_unify_22 o_6 rfl rfl (Nat.le_of_ble_eq_true rfl) ⟨(Nat.le_of_ble_eq_true rfl), (Nat.le_of_ble_eq_true rfl)⟩ rfl rfl (Nat.le_of_ble_eq_true rfl) (Nat.le_of_ble_eq_true rfl) (fun r9 J_22 hq9 => ?_)
    obtain ⟨z_22, rfl, hz_22, rfl, rfl⟩ := hq9
    by_cases hw_25 : 0 ≤ t ∧ t < J 6 12
    · rw [show (if 0 ≤ t ∧ t < J 6 12 then 1 else 0 : Int) = 1 from if_pos hw_25]
      refine tz_if_neT (pc := 25) (tgt := 35) (by decide) dX11_unify_25 (by decide) (by decide) ?_
      refine tz_aload_n (pc := 35) dX11_unify_35 rfl rfl ?_
      refine tz_fR (pc := 36) dX11_unify_36 fl_X11_69 r_0_8 ?_
      refine tz_iload_n (pc := 39) dX11_unify_39 rfl rfl ?_
      refine tz_iload_n (pc := 40) dX11_unify_40 rfl rfl ?_
      refine tz_iconst (pc := 41) dX11_unify_41 ?_
      refine tz_cV (pc := 42) (u_wayOf hl n _ _ _ _ (by omega) (by omega) (by decide) m 400 S hC hm cc.1 (by omega) (by omega) (Or.inl rfl) hI.1.2.1 (by omega) (Or.inl ⟨rfl, rfl⟩)) vl_X11_319 dX11_unify_42 o_145 rfl rfl (Nat.le_of_ble_eq_true rfl) ⟨(Nat.le_of_ble_eq_true rfl), (Nat.le_of_ble_eq_true rfl)⟩ rfl rfl (Nat.le_of_ble_eq_true rfl) (Nat.le_of_ble_eq_true rfl) (fun r9 J1 hq9 => ?_)
      obtain ⟨zc, rfl, hz_42, ⟨q1, q2, q3, q4⟩, qu, qo⟩ := hq9
      rw [Int.add_zero] at qu
      have hn9 := hI.1.2.1.1
      have hw1 := hI.uni q4 rfl (q2.rest (by omega))
      have hI1 := hw1.1
      have cc1 := cc.wk hI q4 rfl
      refine tz_istore_n (pc := 45) (L2 := [_, _, _, _, _]) dX11_unify_45 rfl (by decide) rfl ?_
      refine tz_iload_n (pc := 46) dX11_unify_46 rfl rfl ?_
      refine tz_iconst (pc := 47) dX11_unify_47 ?_
      refine tz_icmp_eq (pc := 48) (tgt := 58) dX11_unify_48 (by decide) (by omega) (by decide) (fun h_48 => ?_) (fun h_48 => ?_)
      · refine tz_aload_n (pc := 58) dX11_unify_58 rfl rfl ?_
        refine tz_fR (pc := 59) dX11_unify_59 fl_X11_29 r_0_1 ?_
        refine tz_cV (pc := 62) (c_begin hl n _) vl_X11_287 dX11_unify_62 o_5 rfl rfl (Nat.le_of_ble_eq_true rfl) ⟨(Nat.le_of_ble_eq_true rfl), (Nat.le_of_ble_eq_true rfl)⟩ rfl rfl (Nat.le_of_ble_eq_true rfl) (Nat.le_of_ble_eq_true rfl) (fun r9 Jb hq9 => ?_)
        obtain ⟨rfl, hj⟩ := hq9
        have hb9 : zOf (zbut [19, 61]) Jb J1 := by rw [← hj]; exact zOf.cp rfl (zOf.up rfl zOf.rf)
        have hb19 : ∀ k, ¬ k = 0 → Jb 19 k = J1 19 k := fun k hk => by rw [← hj, zcp_nc (by decide), zup_ne hk]
        have a0 : AC Jb m m := by rw [← hj]; exact hI1.begin
        have hb6 := a0.1.1.2.1
        obtain ⟨cb, kb, lb⟩ := cc1.begin hI1 hj
        refine tz_aload_n (pc := 65) dX11_unify_65 rfl rfl ?_
        refine tz_fR (pc := 66) dX11_unify_66 fl_X11_29 r_0_1 ?_
        refine tz_fR (pc := 69) dX11_unify_69 fl_X11_49 r_5_0 ?_
        refine tz_fR (pc := 72) dX11_unify_72 fl_X11_235 r_6_7 ?_
        refine tz_iload_n (pc := 75) dX11_unify_75 rfl rfl ?_
        refine tz_aL (pc := 76) (z := s) (v := (J 13 s)) dX11_unify_76 a_13 rfl (by omega) (Eq.trans (congrFun (hb9 13 rfl) s) (Eq.trans (congrFun (q4 13 rfl) s) rfl)) (fun r_76 => ?_)
        refine tz_aload_n (pc := 77) dX11_unify_77 rfl rfl ?_
        refine tz_fR (pc := 78) dX11_unify_78 fl_X11_29 r_0_1 ?_
        refine tz_fR (pc := 81) dX11_unify_81 fl_X11_49 r_5_0 ?_
        refine tz_fR (pc := 84) dX11_unify_84 fl_X11_235 r_6_7 ?_
        refine tz_iload_n (pc := 87) dX11_unify_87 rfl rfl ?_
        refine tz_aL (pc := 88) (z := t) (v := (J 13 t)) dX11_unify_88 a_13 rfl (by omega) (Eq.trans (congrFun (hb9 13 rfl) t) (Eq.trans (congrFun (q4 13 rfl) t) rfl)) (fun r_88 => ?_)
        refine tz_ior (pc := 89) (v := zor (J 13 s) (J 13 t)) dX11_unify_89 rfl ?_
        refine tz_istore (pc := 90) (L2 := [_, _, _, _, _]) dX11_unify_90 (by decide) rfl ?_
        refine tz_aload_n (pc := 92) dX11_unify_92 rfl rfl ?_
        refine tz_aload_n (pc := 93) dX11_unify_93 rfl rfl ?_
        refine tz_fR (pc := 94) dX11_unify_94 fl_X11_69 r_0_8 ?_
        refine tz_iload (pc := 97) dX11_unify_97 rfl ?_
        refine tz_aload_n (pc := 99) dX11_unify_99 rfl rfl ?_
        refine tz_fR (pc := 100) dX11_unify_100 fl_X11_29 r_0_1 ?_
        refine tz_fR (pc := 103) dX11_unify_103 fl_X11_156 r_5_1 ?_
        refine tz_fR (pc := 106) dX11_unify_106 fl_X11_167 r_18_0 ?_
        refine tz_bipush (pc := 109) dX11_unify_109 (by decide) ?_
        obtain ⟨ue9, nr9, U9, S9, K9⟩ := uni_yes qu (by omega)
        obtain ⟨ρ9, R9, q9⟩ := sol_mk U9 S9
        have C9 := cro_mk cb.1 a0.1.1.1 a0.1.1.2.1 S9 R9 U9 q9
        have V9 := uni_slv (ρ := ρ9) U9 (qo (by omega)) hb9
        have e13 : Jb 13 = J 13 := (hb9 13 rfl).trans (q4 13 rfl)
        have bt9 := ub_bt (s := s) (t := t) cb.1 a0.1.1.1 a0.1.1.2.1 (by omega) (by omega)
        have nd9 := ub_nd (s := s) (t := t) cb.1 a0.1.1.1 a0.1.1.2.1 (by omega) (by omega)
        rw [e13] at bt9 nd9
        refine tz_cV (pc := 111) (u_bindAll hl n _ _ (zor_rg _ _) (tp (upV J1)) (usV J1) (ulV J1) ρ9 S m a0.1.1.1 a0.1.1.2.1 (q2.of (Int.le_refl _) (congrFun (hb9 145 rfl) 10) (fun c hc => hb9 c (by simp [zbut]; omega))) a0.1.1.2.2 (by rw [hb9 145 rfl]; omega) h21 cb.1 cb.2.1 V9.1 C9 V9.2 nd9) vl_X11_323 dX11_unify_111 o_145 rfl rfl (Nat.le_of_ble_eq_true rfl) ⟨(Nat.le_of_ble_eq_true rfl), (Nat.le_of_ble_eq_true rfl)⟩ rfl rfl (Nat.le_of_ble_eq_true rfl) (Nat.le_of_ble_eq_true rfl) (fun r9 J_111 hq9 => ?_)
        obtain ⟨z_111, rfl, hz_111, m1, g1, r1, l1, h1, o1⟩ := hq9
        have a1 := a0.gx g1 rfl l1 r1
        refine tz_cV (pc := 114) (x_settled hl n _ _ (by omega) m m1 a1) vl_X11_293 dX11_unify_114 o_0 rfl rfl (Nat.le_of_ble_eq_true rfl) ⟨(Nat.le_of_ble_eq_true rfl), (Nat.le_of_ble_eq_true rfl)⟩ rfl rfl (Nat.le_of_ble_eq_true rfl) (Nat.le_of_ble_eq_true rfl) (fun r9 J_114 hq9 => ?_)
        obtain ⟨z_114, rfl, hz_114, s9, s8⟩ := hq9
        exact tz_iret (pc := 117) (z := z_114) dX11_unify_117 rfl (Nat.le_of_ble_eq_true rfl) (Nat.le_of_ble_eq_true rfl) ⟨Nat.le_refl _, Nat.le_add_right _ _⟩ ⟨_, rfl, (by omega), ⟨(s9.cq (by rw [g1.2.2.2.2 145 rfl, hb9 145 rfl]; omega) ((g1.2.2.2.2 0 rfl).trans ((hb9 0 rfl).trans hw1.2.1)) ((g1.2.2.2.2.mono (fun c hc => by have := of_decide_eq_true hc; simp [zbut]; omega)).tr ((hb9.mono (fun c hc => by have := of_decide_eq_true hc; simp [zbut]; omega)).tr hw1.2.2))), Or.inl ⟨by omega, ue9, nr9, ρ9, _, ⟨_, _, _, U9, S9, K9, R9⟩, bt9, act_end (F := (bnO ρ9 _ S 8, 1)) cc1 hI1 hj g1 rfl o1 s8⟩⟩⟩
      · refine tz_aload_n (pc := 51) dX11_unify_51 rfl rfl ?_
        refine tz_iconst (pc := 52) dX11_unify_52 ?_
        refine tz_iload_n (pc := 53) dX11_unify_53 rfl rfl ?_
        refine tz_cV (pc := 54) (c_refused hl n _ _ _ (by decide) (by omega) (by decide)) vl_X11_284 dX11_unify_54 o_0 rfl rfl (Nat.le_of_ble_eq_true rfl) ⟨(Nat.le_of_ble_eq_true rfl), (Nat.le_of_ble_eq_true rfl)⟩ rfl rfl (Nat.le_of_ble_eq_true rfl) (Nat.le_of_ble_eq_true rfl) (fun r9 J_54 hq9 => ?_)
        obtain ⟨z_54, rfl, hz_54, f9, rfl⟩ := hq9
        exact tz_iret (pc := 57) (z := zc) dX11_unify_57 rfl (Nat.le_of_ble_eq_true rfl) (Nat.le_of_ble_eq_true rfl) ⟨Nat.le_refl _, Nat.le_add_right _ _⟩ ⟨_, rfl, (by omega), ⟨(SQ.cq ⟨⟨m, hI1.st f9⟩, f9 145 rfl, f9 0 rfl, (f9.mono (fun c hc => by have := of_decide_eq_true hc; simp [zbut]; omega))⟩ (by omega) hw1.2.1 hw1.2.2), Or.inr ((uni_no qu (by omega)).elim (fun q => Or.inl ⟨by omega, q.1, q.2, cc1.st hI1 f9⟩) (fun q => Or.inr (Or.inl ⟨by omega, q.1, q.2.1, q.2.2, cc1.st hI1 f9⟩)))⟩⟩
    · rw [show (if 0 ≤ t ∧ t < J 6 12 then 1 else 0 : Int) = 0 from if_neg hw_25]
      refine tz_if_neF (pc := 25) (tgt := 35) (by decide) dX11_unify_25 (by decide) (by decide) ?_
      refine tz_aload_n (pc := 28) dX11_unify_28 rfl rfl ?_
      refine tz_iconst (pc := 29) dX11_unify_29 ?_
      refine tz_iconst (pc := 30) dX11_unify_30 ?_
      refine tz_cV (pc := 31) (c_refused hl n _ _ _ (by decide) (by omega) (by decide)) vl_X11_284 dX11_unify_31 o_0 rfl rfl (Nat.le_of_ble_eq_true rfl) ⟨(Nat.le_of_ble_eq_true rfl), (Nat.le_of_ble_eq_true rfl)⟩ rfl rfl (Nat.le_of_ble_eq_true rfl) (Nat.le_of_ble_eq_true rfl) (fun r9 J_31 hq9 => ?_)
      obtain ⟨z_31, rfl, hz_31, f9, rfl⟩ := hq9
      exact tz_iret (pc := 34) (z := (-1)) dX11_unify_34 rfl (Nat.le_of_ble_eq_true rfl) (Nat.le_of_ble_eq_true rfl) ⟨Nat.le_refl _, Nat.le_add_right _ _⟩ ⟨_, rfl, (by decide), ⟨(SQ.cq ⟨⟨m, hI.st f9⟩, f9 145 rfl, f9 0 rfl, (f9.mono (fun c hc => by have := of_decide_eq_true hc; simp [zbut]; omega))⟩ (by omega) rfl zOf.rf), Or.inr (Or.inr (Or.inr ⟨by omega, rfl, cc.st hI f9⟩))⟩⟩
  · rw [show (if 0 ≤ s ∧ s < J 6 12 then 1 else 0 : Int) = 0 from if_neg hw_11]
    refine tz_if_eqT (pc := 11) (tgt := 28) (by decide) dX11_unify_11 (by decide) (by decide) ?_
    refine tz_aload_n (pc := 28) dX11_unify_28 rfl rfl ?_
    refine tz_iconst (pc := 29) dX11_unify_29 ?_
    refine tz_iconst (pc := 30) dX11_unify_30 ?_
    refine tz_cV (pc := 31) (c_refused hl n _ _ _ (by decide) (by omega) (by decide)) vl_X11_284 dX11_unify_31 o_0 rfl rfl (Nat.le_of_ble_eq_true rfl) ⟨(Nat.le_of_ble_eq_true rfl), (Nat.le_of_ble_eq_true rfl)⟩ rfl rfl (Nat.le_of_ble_eq_true rfl) (Nat.le_of_ble_eq_true rfl) (fun r9 J_31 hq9 => ?_)
    obtain ⟨z_31, rfl, hz_31, f9, rfl⟩ := hq9
    exact tz_iret (pc := 34) (z := (-1)) dX11_unify_34 rfl (Nat.le_of_ble_eq_true rfl) (Nat.le_of_ble_eq_true rfl) ⟨Nat.le_refl _, Nat.le_add_right _ _⟩ ⟨_, rfl, (by decide), ⟨(SQ.cq ⟨⟨m, hI.st f9⟩, f9 145 rfl, f9 0 rfl, (f9.mono (fun c hc => by have := of_decide_eq_true hc; simp [zbut]; omega))⟩ (by omega) rfl zOf.rf), Or.inr (Or.inr (Or.inr ⟨by omega, rfl, cc.st hI f9⟩))⟩⟩

end
section
/-! ===== unify of the reference, the call ===== -/
theorem MOP.mgb {Jo Jb : zJ} {s m m' : Int} (g : MG [] [] rB Jo Jb 0 0 0 s m m') : MOP Jo Jb m := by
  obtain ⟨g1, g2, ⟨f1, f2, f3, f4⟩, g4⟩ := g
  have rb : ∀ k, 63 ≤ k → rB k = false := fun k a => by unfold rB; exact decide_eq_false (by omega)
  refine ⟨⟨fun k a => f2 k (by omega) (rb k (by omega)), fun k a b => f1.1 k (by omega), fun k a b => f1.2 k (by omega), f3 12 rfl, f3 13 rfl⟩, fun k a => f2 k (by omega) (rb k a), ⟨f3 9 rfl, f3 10 rfl, f3 11 rfl⟩, fun t a b => ?_, fun k a b => ?_, fun k _ _ => ⟨by rw [f4 169 rfl], by rw [f4 170 rfl], by rw [f4 171 rfl]⟩⟩
  · have := (g2 t a b).1
    rw [Int.zero_add] at this
    exact this
  · have := (g2 (k / 3) (by omega) (by omega)).2 (k % 3) (by omega) (by omega)
    rw [show 3 * (0 + k / 3) + k % 3 = k from by omega] at this
    exact this
/-- two tables, alike where one looks -/
def ALK (V : Int → Prop) (hd hd' ar ar' : Int → Int) (ag ag' : Int → Int → Int) : Prop := ∀ x, V x → hd' x = hd x ∧ ar' x = ar x ∧ ar x ≤ 3 ∧ ∀ i, 0 ≤ i → i < 3 → ag' x i = ag x i
theorem ALK.sy {V : Int → Prop} {hd hd' ar ar' : Int → Int} {ag ag' : Int → Int → Int} (e : ALK V hd hd' ar ar' ag ag') : ALK V hd' hd ar' ar ag' ag := fun x hx => by
  obtain ⟨a, b, c, d⟩ := e x hx
  exact ⟨a.symm, b.symm, by omega, fun i p q => (d i p q).symm⟩
theorem ALK.cg {V : Int → Prop} {hd hd' ar ar' : Int → Int} {ag ag' : Int → Int → Int} {f : Int → Int} (e : ALK V hd hd' ar ar' ag ag') (h : CGm V hd ar ag f) : CGm V hd' ar' ag' f := fun x y hx hy q h1 h2 => by
  obtain ⟨a1, b1, c1, d1⟩ := e x hx
  obtain ⟨a2, b2, c2, d2⟩ := e y hy
  rw [a1] at h1 ⊢
  rw [a2] at h2 ⊢
  rw [b1]
  obtain ⟨p, r⟩ := h x y hx hy q h1 h2
  exact ⟨p, fun i i0 iA => by rw [d1 i i0 (by omega), d2 i i0 (by omega)]; exact r i i0 iA⟩
theorem ALK.lc {V : Int → Prop} {hd hd' ar ar' : Int → Int} {ag ag' : Int → Int → Int} {s t u v : Int} (e : ALK V hd hd' ar ar' ag ag') : LCu V hd ar ag s t u v ↔ LCu V hd' ar' ag' s t u v := ⟨fun h f g q => h f (e.sy.cg g) q, fun h f g q => h f (e.cg g) q⟩
theorem ALK.nr {V : Int → Prop} {hd hd' ar ar' : Int → Int} {ag ag' : Int → Int → Int} {s t : Int} (e : ALK V hd hd' ar ar' ag ag') (h : NRu V hd ar ag (LCu V hd ar ag s t) s) : NRu V hd' ar' ag' (LCu V hd' ar' ag' s t) s := by
  obtain ⟨rk, P, p, w1, w2⟩ := h
  refine ⟨rk, P, p, fun x y hx hy r q => w1 x y hx hy (e.lc.2 r) q, fun x hx q hh i i0 iA => ?_⟩
  obtain ⟨a, b, c, d⟩ := e x hx
  rw [a] at hh
  rw [b] at iA
  rw [d i i0 (by omega)]
  exact w2 x hx q hh i i0 iA
theorem ALK.up {H S : zJ} {m s t z : Int} {p sh lv : Int → Int} (e : ALK (VN 400 m) (hdN H 0) (hdN S 0) (arN H 0 0) (arN S 0 0) (agN H 0) (agN S 0)) (h : UPO 400 m 0 0 H s t p sh lv z) : UPO 400 m 0 0 S s t p sh lv z := by
  rcases h with ⟨a, b⟩ | ⟨⟨f, g, q⟩, U, hS, K, b⟩
  · exact Or.inl ⟨a, fun ⟨f, g, q⟩ => b ⟨f, e.sy.cg g, q⟩⟩
  · refine Or.inr ⟨⟨f, e.cg g, q⟩, U, fun a ha r => ?_, fun u v hu hv => (K u v hu hv).trans e.lc, b.imp (fun ⟨y, n⟩ => ⟨y, e.nr n⟩) (fun ⟨y, n⟩ => ⟨y, fun k => n (e.sy.nr k)⟩)⟩
    obtain ⟨k1, k2⟩ := hS a ha r
    refine ⟨k1.imp id (fun k => ⟨k.1, by rw [(e _ k.1).1]; exact k.2.1, k.2.2⟩), fun n => ?_⟩
    obtain ⟨x1, u, hu, e1, e2⟩ := k2 n
    exact ⟨fun u hu q => by rw [(e u hu).1]; exact x1 u hu q, u, hu, e1, by rw [(e u hu).1]; exact e2⟩
theorem alk_z {H J : zJ} {s m : Int} (hM : MS J 0 0 0 s m) (e6 : H 166 = J 166) (e7 : H 167 = J 167) (e0 : H 170 = J 170) : ALK (VN 400 m) (hdN H 0) (hdN (tbz J) 0) (arN H 0 0) (arN (tbz J) 0 0) (agN H 0) (agN (tbz J) 0) := fun x hx => by
  have hT := hM.told
  have z := hx.z
  obtain ⟨a1, b1, c1⟩ := hdN_4 (S := H) hx
  obtain ⟨a2, b2, c2⟩ := hdN_4 (S := tbz J) hx
  have oa := hM.oa z
  have oa2 : mar (tbz J) 0 0 x = mar J 0 0 x := oa.2
  have a3 := (hM.ar z).1
  have eH : mar H 0 0 x = mar J 0 0 x := by unfold mar; rw [e6, e0]
  refine ⟨?_, ?_, by rw [b1, eH]; omega, fun i p q => ?_⟩
  · rw [a1, a2, e6]; exact oa.1
  · rw [b1, b2, eH]; exact oa2
  · rw [c1, c2, e7]
    show (if 0 ≤ 3 * (0 + x) + i ∧ 3 * (0 + x) + i < 1200 then J 167 (3 * (0 + x) + i) else 0) = _
    rw [if_pos (by omega)]
theorem mrho_mk {J J2 : zJ} {m : Int} {p sh lv ρ : Int → Int} (hm : m ≤ 400) (H : SHp (VN 400 m) (hdN (tbz J) 0) p sh lv) (U : UFp (VN 400 m) p) (R : RHO (tbz J) m (tp p) sh lv ρ) (e6 : J2 166 = J 166) (e1 : J2 177 = p) (e2 : J2 178 = sh) (e3 : J2 179 = lv) : mRHO J2 m ρ := fun t ht => by
  obtain ⟨a, b, c⟩ := R t ht
  have r := U.root ht
  obtain ⟨l1, l2⟩ := sol_lv H r.2 r.1
  rw [e1, e2, e3, e6]
  have za := a.z
  refine ⟨a, fun n => ?_, fun n => ⟨c n, ?_⟩⟩
  · rw [← b n]; exact (tbz_6 (by omega)).symm
  · obtain ⟨y1, y2⟩ := l2 n
    have zy := y1.z
    rw [tbz_6 (by omega)] at y2
    rw [c n]; exact y2
theorem ref_bt {J2 J : zJ} {m s x y a b : Int} (hM : MS J2 0 0 0 s m) (e : tb0 J2 = tbz J) (hx : 0 ≤ x ∧ x < m) (hy : 0 ≤ y ∧ y < m) (ha : ∀ v, (0 ≤ v ∧ v < 8) → (bt a v ↔ Occ J2 0 0 x v)) (hb : ∀ v, (0 ≤ v ∧ v < 8) → (bt b v ↔ Occ J2 0 0 y v)) : (∀ v, 0 ≤ v → v < 8 → (bt (zor a b) v ↔ Occ (tbz J) 0 0 x v ∨ Occ (tbz J) 0 0 y v)) ∧ ∀ v, 0 ≤ v → v < 8 → bt (zor a b) v → ∃ t, (0 ≤ t ∧ t < m) ∧ J2 166 (0 + t) = -1 - v := by
  refine ⟨fun v p q => ?_, fun v p q w => ?_⟩
  · rw [bt_or, ha v ⟨p, q⟩, hb v ⟨p, q⟩, ← e, hM.oc hx, hM.oc hy]
  · rw [bt_or, ha v ⟨p, q⟩, hb v ⟨p, q⟩] at w
    rcases w with ⟨k, o⟩ | ⟨k, o⟩
    · exact hM.ond k x v hx o
    · exact hM.ond k y v hy o
theorem uni_end {Jb Jo J' S : zJ} {ρ : Int → Int} {bs n m s m' z : Int} {R : Int → Int → Int} (hb : tb0 Jb = S) (hS : S 165 0 = m) (hm : m ≤ 400) (hA : ∀ q, 0 ≤ q → q < 63 → Jb 165 (63 + q) = S 165 q) (u : MUr Jb n R) (hn : 0 ≤ n ∧ n ≤ 40) (h11 : 0 ≤ Jb 164 11 ∧ Jb 164 11 < 40) (g : MG [] [] rB Jo Jb 0 0 0 s m m') (x : WKB ρ bs Jb Jo 8) (k : (¬ Jo 164 21 = 0 ∧ -3 = z ∧ zOf (zbut [172]) J' (zmv Jo 165 63 0 63)) ∨ (Jo 164 21 = 0 ∧ 1 = z ∧ ((¬ Jo 164 10 = 40 ∧ zkL Jo = J') ∨ (Jo 164 10 = 40 ∧ zkF Jo = J')))) : MED S n R (bnO ρ bs S 8, 1) J' z ∧ MFI J' Jb := by
  have p := MOP.mgb g
  by_cases f : Jo 164 21 = 0
  · have e := x.1 f
    rw [hb] at e
    refine mact_end (F := (bnO ρ bs S 8, 1)) hb hS hm hA u hn h11 p e ?_ (fun _ => rfl) k
    show bnO ρ bs S 8 165 0 ≤ 400
    rw [← e]
    show Jo 165 0 ≤ 400
    have t9 := g.1.1.told
    have s9 := g.1.1.2.2.2.2.1
    omega
  · have e := x.2 f
    rw [hb] at e
    rcases k with ⟨_, k2, k3⟩ | ⟨k1, _⟩
    · obtain ⟨w1, w2⟩ := mact_fail hb hS hm hA u hn h11 p k3
      exact ⟨Or.inl ⟨e, k2.symm, w1.1, w1.2⟩, w2⟩
    · exact absurd k1 f
theorem AE5 {J' Jb J S : zJ} {n z x y m : Int} {ρ : Int → Int} {bs : Int} {R : Int → Int → Int} {P Q : Prop} (q : MQr J' J) (b : MFI Jb J) (e : MED S n R (bnO ρ bs S 8, 1) J' z ∧ MFI J' Jb) (p : P) (u : UEX S m x y) (r : NRQ S m x y) (g : GSOL S m x y ρ) (w : ∀ v, 0 ≤ v → v < 8 → (bt bs v ↔ Occ S 0 0 x v ∨ Occ S 0 0 y v)) : MQr J' J ∧ MFI J' J ∧ ((P ∧ UEX S m x y ∧ NRQ S m x y ∧ ∃ ρ bs, GSOL S m x y ρ ∧ (∀ v, 0 ≤ v → v < 8 → (bt bs v ↔ Occ S 0 0 x v ∨ Occ S 0 0 y v)) ∧ MED S n R (bnO ρ bs S 8, 1) J' z) ∨ Q) := ⟨q, b.tr e.2, Or.inl ⟨p, u, r, ρ, bs, g, w, e.1⟩⟩
set_option maxHeartbeats 4000000 in
set_option maxRecDepth 100000 in
theorem v_qunify {l : Launch} {G : tb_G} (hl : l.stackTraces = false) (n : Nat) (J : zJ) (x : Int) (y : Int) (hr_x : -2147483648 ≤ x ∧ x < 2147483648) (hr_y : -2147483648 ≤ y ∧ y < 2147483648) (m : Int) (pn : Int) (RR : Int → Int → Int) (hI : MI J m) (u9 : MUr J pn RR) : tz_Ok l G M_X12_unify 808 0 0 [.ref 164, zi x, zi y] n J (zqi (fun z J' => MQr J' J ∧ MFI J' J ∧ ((((0 ≤ x ∧ x < J 165 0) ∧ (0 ≤ y ∧ y < J 165 0)) ∧ UEX (tbz J) m x y ∧ NRQ (tbz J) m x y ∧ ∃ ρ bs, GSOL (tbz J) m x y ρ ∧ (∀ v, 0 ≤ v → v < 8 → (bt bs v ↔ Occ (tbz J) 0 0 x v ∨ Occ (tbz J) 0 0 y v)) ∧ MED (tbz J) pn RR (bnO ρ bs (tbz J) 8, 1) J' z) ∨ (((0 ≤ x ∧ x < J 165 0) ∧ (0 ≤ y ∧ y < J 165 0)) ∧ ¬ UEX (tbz J) m x y ∧ z = 0 ∧ MBT J' (tbz J) ∧ MUr J' pn RR) ∨ (((0 ≤ x ∧ x < J 165 0) ∧ (0 ≤ y ∧ y < J 165 0)) ∧ UEX (tbz J) m x y ∧ ¬ NRQ (tbz J) m x y ∧ z = 2 ∧ MBT J' (tbz J) ∧ MUr J' pn RR) ∨ (¬ ((0 ≤ x ∧ x < J 165 0) ∧ (0 ≤ y ∧ y < J 165 0)) ∧ z = -1 ∧ MBT J' (tbz J) ∧ MUr J' pn RR)))) zN := by
  refine tz_Ok.of hl (by decide +kernel) rfl (tb_c1 rfl) (Nat.le_of_ble_eq_true rfl) ?_
  show tz_At l G M_X12_unify (tb_rm 808 0 0) none (tb_ZM G 0 0 (zQ n 0 (zqi (fun z J' => MQr J' J ∧ MFI J' J ∧ ((((0 ≤ x ∧ x < J 165 0) ∧ (0 ≤ y ∧ y < J 165 0)) ∧ UEX (tbz J) m x y ∧ NRQ (tbz J) m x y ∧ ∃ ρ bs, GSOL (tbz J) m x y ρ ∧ (∀ v, 0 ≤ v → v < 8 → (bt bs v ↔ Occ (tbz J) 0 0 x v ∨ Occ (tbz J) 0 0 y v)) ∧ MED (tbz J) pn RR (bnO ρ bs (tbz J) 8, 1) J' z) ∨ (((0 ≤ x ∧ x < J 165 0) ∧ (0 ≤ y ∧ y < J 165 0)) ∧ ¬ UEX (tbz J) m x y ∧ z = 0 ∧ MBT J' (tbz J) ∧ MUr J' pn RR) ∨ (((0 ≤ x ∧ x < J 165 0) ∧ (0 ≤ y ∧ y < J 165 0)) ∧ UEX (tbz J) m x y ∧ ¬ NRQ (tbz J) m x y ∧ z = 2 ∧ MBT J' (tbz J) ∧ MUr J' pn RR) ∨ (¬ ((0 ≤ x ∧ x < J 165 0) ∧ (0 ≤ y ∧ y < J 165 0)) ∧ z = -1 ∧ MBT J' (tbz J) ∧ MUr J' pn RR))))) (zX n 0 zN)) 0 0 n J 0 [some (.ref 164), some (zi x), some (zi y), none] []
  have hT := hI.told
  have hW := hI.row
  have hM := hI.1
  have hL := hI.2.1
  refine tz_aload_n (pc := 0) dX12_unify_0 rfl rfl ?_
  refine tz_iconst (pc := 1) dX12_unify_1 ?_
  refine tz_pI (pc := 2) (kz := 8) dX12_unify_2 fl_X12_68 i_164_8 rfl rfl (by decide) ?_
  refine tz_aload_n (pc := 5) dX12_unify_5 rfl rfl ?_
  refine tz_iload_n (pc := 6) dX12_unify_6 rfl rfl ?_
  refine tz_cV (pc := 7) (m_isTerm hl n _ _ (by omega) (by rw [(show ((zup J 164 8 0) : zJ) 165 0 = (J 165 0) from rfl)]; omega)) vl_X12_376 dX12_unify_7 o_164 rfl rfl (Nat.le_of_ble_eq_true rfl) ⟨(Nat.le_of_ble_eq_true rfl), (Nat.le_of_ble_eq_true rfl)⟩ rfl rfl (Nat.le_of_ble_eq_true rfl) (Nat.le_of_ble_eq_true rfl) (fun r9 J_7 hq9 => ?_)
  obtain ⟨z_7, rfl, hz_7, rfl, ht_7⟩ := hq9
  rw [(show ((zup J 164 8 0) : zJ) 165 0 = (J 165 0) from rfl)] at ht_7
  refine tz_if_eq (pc := 10) (tgt := 21) dX12_unify_10 (by decide) (by omega) (fun h_10 => ?_) (fun h_10 => ?_)
  · refine tz_aload_n (pc := 21) dX12_unify_21 rfl rfl ?_
    refine tz_iconst (pc := 22) dX12_unify_22 ?_
    refine tz_iconst (pc := 23) dX12_unify_23 ?_
    refine tz_cV (pc := 24) (m_refuses hl n _ _ _ (by decide) (by decide) (by decide)) vl_X12_391 dX12_unify_24 o_164 rfl rfl (Nat.le_of_ble_eq_true rfl) ⟨(Nat.le_of_ble_eq_true rfl), (Nat.le_of_ble_eq_true rfl)⟩ rfl rfl (Nat.le_of_ble_eq_true rfl) (Nat.le_of_ble_eq_true rfl) (fun r9 J_24 hq9 => ?_)
    obtain ⟨z_24, rfl, hz_24, rfl, f_24⟩ := hq9
    have y_24 : MZ J_24 J := MZ.tr (MZ.up (k := 8) MZ.rf (by decide)) (MZ.c f_24 (by decide))
    exact tz_iret (pc := 27) (z := (-1)) dX12_unify_27 rfl (Nat.le_of_ble_eq_true rfl) (Nat.le_of_ble_eq_true rfl) ⟨Nat.le_refl _, Nat.le_add_right _ _⟩ ⟨_, rfl, (by decide), ⟨MQr.z hI y_24, MFI.z y_24, Or.inr (Or.inr (Or.inr ⟨by omega, rfl, MBT.z hI y_24, u9.z y_24⟩))⟩⟩
  · refine tz_aload_n (pc := 13) dX12_unify_13 rfl rfl ?_
    refine tz_iload_n (pc := 14) dX12_unify_14 rfl rfl ?_
    refine tz_cV (pc := 15) (m_isTerm hl n _ _ (by omega) (by rw [(show ((zup J 164 8 0) : zJ) 165 0 = (J 165 0) from rfl)]; omega)) vl_X12_376 dX12_unify_15 o_164 rfl rfl (Nat.le_of_ble_eq_true rfl) ⟨(Nat.le_of_ble_eq_true rfl), (Nat.le_of_ble_eq_true rfl)⟩ rfl rfl (Nat.le_of_ble_eq_true rfl) (Nat.le_of_ble_eq_true rfl) (fun r9 J_15 hq9 => ?_)
    obtain ⟨z_15, rfl, hz_15, rfl, ht_15⟩ := hq9
    rw [(show ((zup J 164 8 0) : zJ) 165 0 = (J 165 0) from rfl)] at ht_15
    refine tz_if_ne (pc := 18) (tgt := 28) dX12_unify_18 (by decide) (by omega) (fun h_18 => ?_) (fun h_18 => ?_)
    · refine tz_aload_n (pc := 28) dX12_unify_28 rfl rfl ?_
      refine tz_iload_n (pc := 29) dX12_unify_29 rfl rfl ?_
      refine tz_iload_n (pc := 30) dX12_unify_30 rfl rfl ?_
      refine tz_cV (pc := 31) (x_unifies hl n _ _ _ (by omega) (by omega) 0 0 0 (J 164 9) m 400 (hM.z (MZ.up (k := 8) MZ.rf (by decide))) (Or.inl rfl) ⟨by omega, by omega⟩ ⟨by omega, by omega⟩) vl_X12_189 dX12_unify_31 o_164 rfl rfl (Nat.le_of_ble_eq_true rfl) ⟨(Nat.le_of_ble_eq_true rfl), (Nat.le_of_ble_eq_true rfl)⟩ rfl rfl (Nat.le_of_ble_eq_true rfl) (Nat.le_of_ble_eq_true rfl) (fun r9 J_31 hq9 => ?_)
      obtain ⟨z_31, rfl, hz_31, ⟨u_31, b_31, f_31, l_31⟩, v_31⟩ := hq9
      have x_31 : MZ J_31 (zup J 164 8 0) := MZ.f ⟨f_31, l_31⟩ (by decide) (by decide)
      have y_31 := MZ.tr (MZ.up (k := 8) MZ.rf (by decide)) x_31
      have z_318 := (alk_z (H := (zup J 164 8 0)) hM ((MZ.up (k := 8) MZ.rf (by decide)).1 166 rfl) ((MZ.up (k := 8) MZ.rf (by decide)).1 167 rfl) ((MZ.up (k := 8) MZ.rf (by decide)).1 170 rfl)).up v_31
      refine tz_istore_n (pc := 34) (L2 := [_, _, _, _]) dX12_unify_34 rfl (by decide) rfl ?_
      refine tz_iload_n (pc := 35) dX12_unify_35 rfl rfl ?_
      refine tz_iconst (pc := 36) dX12_unify_36 ?_
      refine tz_icmp_eq (pc := 37) (tgt := 47) dX12_unify_37 (by decide) (by omega) (by decide) (fun h_37 => ?_) (fun h_37 => ?_)
      · refine tz_aload_n (pc := 47) dX12_unify_47 rfl rfl ?_
        refine tz_cV (pc := 48) (m_begins hl n _) vl_X12_400 dX12_unify_48 o_164 rfl rfl (Nat.le_of_ble_eq_true rfl) ⟨(Nat.le_of_ble_eq_true rfl), (Nat.le_of_ble_eq_true rfl)⟩ rfl rfl (Nat.le_of_ble_eq_true rfl) (Nat.le_of_ble_eq_true rfl) (fun r9 J_48 hq9 => ?_)
        obtain ⟨rfl, hj_48⟩ := hq9
        have a_48 : AM J_48 J m m := by rw [← hj_48]; exact AM.begin (hI.z y_31) ⟨MZ.lo y_31, SC.z y_31⟩
        have br_48 : ∀ k, (k < 63 ∨ 126 ≤ k) → J_48 165 k = (J_31 : zJ) 165 k := fun k hk => by rw [← hj_48]; exact zbg_r hk
        have bl_48 : ∀ k, ¬ k = 34 → ¬ k = 33 → ¬ k = 21 → J_48 164 k = (J_31 : zJ) 164 k := fun k u v w => by rw [← hj_48]; exact zbg_f u v w
        have bo_48 : zOf (zbut [164, 165]) J_48 J_31 := by rw [← hj_48]; exact zbg_of
        have b3_48 : J_48 164 21 = 0 ∧ J_48 164 33 = 0 ∧ J_48 164 34 = 0 := by rw [← hj_48]; exact ⟨rfl, rfl, rfl⟩
        have s9_48 : J_48 164 9 = J 164 9 := (bl_48 9 (by decide) (by decide) (by decide)).trans (y_31.2 9 (by decide) (by decide))
        obtain ⟨⟨bt_48, bs_48, bm_48, ba_48⟩, bu_48, bn_48, bf_48, bi_48⟩ := mbeg hI y_31 hj_48 u9
        refine tz_aload_n (pc := 51) dX12_unify_51 rfl rfl ?_
        refine tz_aload_n (pc := 52) dX12_unify_52 rfl rfl ?_
        refine tz_iload_n (pc := 53) dX12_unify_53 rfl rfl ?_
        refine tz_cV (pc := 54) (m_varsX hl n _ _ (by omega) 0 0 0 (J_48 164 9) m a_48.1.1 (by omega)) vl_X12_126 dX12_unify_54 o_164 rfl rfl (Nat.le_of_ble_eq_true rfl) ⟨(Nat.le_of_ble_eq_true rfl), (Nat.le_of_ble_eq_true rfl)⟩ rfl rfl (Nat.le_of_ble_eq_true rfl) (Nat.le_of_ble_eq_true rfl) (fun r9 J_54 hq9 => ?_)
        obtain ⟨zv_54, rfl, hz_54, rfl, hv_54⟩ := hq9
        have hw_54 := hv_54
        refine tz_aload_n (pc := 57) dX12_unify_57 rfl rfl ?_
        refine tz_iload_n (pc := 58) dX12_unify_58 rfl rfl ?_
        refine tz_cV (pc := 59) (m_varsX hl n _ _ (by omega) 0 0 0 (J_48 164 9) m a_48.1.1 (by omega)) vl_X12_126 dX12_unify_59 o_164 rfl rfl (Nat.le_of_ble_eq_true rfl) ⟨(Nat.le_of_ble_eq_true rfl), (Nat.le_of_ble_eq_true rfl)⟩ rfl rfl (Nat.le_of_ble_eq_true rfl) (Nat.le_of_ble_eq_true rfl) (fun r9 J_59 hq9 => ?_)
        obtain ⟨zv_59, rfl, hz_59, rfl, hv_59⟩ := hq9
        have hw_59 := hv_59
        refine tz_ior (pc := 62) (v := zor zv_54 zv_59) dX12_unify_62 rfl ?_
        obtain ⟨ue9, nr9, U9, S9, K9⟩ := uni_yes z_318 (by omega)
        obtain ⟨ρ9, R9, q9⟩ := sol_mk U9 S9
        have mr9 := mrho_mk (J2 := J_48) (by have := hM.told; omega) S9 U9 R9 ((bo_48 166 rfl).trans (y_31.1 166 rfl)) (bo_48 177 rfl) (bo_48 178 rfl) (bo_48 179 rfl)
        obtain ⟨bt9, nd9⟩ := ref_bt a_48.1.1 bt_48 (by omega) (by omega) hv_54 hv_59
        refine tz_cV (pc := 63) (x_binds hl n _ _ (zor_rg _ _) (J_48 164 9) m ρ9 a_48.1.1 rfl (u_31.of (bo_48 177 rfl) (bo_48 178 rfl) (bo_48 179 rfl)) mr9 nd9) vl_X12_412 dX12_unify_63 o_164 rfl rfl (Nat.le_of_ble_eq_true rfl) ⟨(Nat.le_of_ble_eq_true rfl), (Nat.le_of_ble_eq_true rfl)⟩ rfl rfl (Nat.le_of_ble_eq_true rfl) (Nat.le_of_ble_eq_true rfl) (fun r9 J_63 hq9 => ?_)
        obtain ⟨rfl, ⟨m_63, g_63, h_63⟩, x_63⟩ := hq9
        have a_63 := AM.binds a_48 g_63 h_63 rfl
        have lm_63 := a_63.1.2.2
        refine tz_aload_n (pc := 66) dX12_unify_66 rfl rfl ?_
        refine tz_iconst (pc := 67) dX12_unify_67 ?_
        refine tz_cV (pc := 68) (m_keeps hl n _ _ (by decide) (a_63).2.2.2.1.1.1 (a_63).2.2.2.1.1.2) vl_X12_403 dX12_unify_68 o_164 rfl rfl (Nat.le_of_ble_eq_true rfl) ⟨(Nat.le_of_ble_eq_true rfl), (Nat.le_of_ble_eq_true rfl)⟩ rfl rfl (Nat.le_of_ble_eq_true rfl) (Nat.le_of_ble_eq_true rfl) (fun r9 J_68 hq9 => ?_)
        obtain ⟨z_68, rfl, hz_68, k_68⟩ := hq9
        exact tz_iret (pc := 71) (z := z_68) dX12_unify_71 rfl (Nat.le_of_ble_eq_true rfl) (Nat.le_of_ble_eq_true rfl) ⟨Nat.le_refl _, Nat.le_add_right _ _⟩ ⟨_, rfl, (by omega), (AE5 (AM.keep a_63 k_68) bi_48 (uni_end bt_48 bs_48 bm_48 ba_48 bu_48 bn_48 bf_48 g_63 x_63 k_68) (by omega) ue9 nr9 ⟨_, _, _, U9, S9, K9, R9⟩ bt9)⟩
      · refine tz_aload_n (pc := 40) dX12_unify_40 rfl rfl ?_
        refine tz_iconst (pc := 41) dX12_unify_41 ?_
        refine tz_iload_n (pc := 42) dX12_unify_42 rfl rfl ?_
        refine tz_cV (pc := 43) (m_refuses hl n _ _ _ (by decide) (by omega) (by decide)) vl_X12_391 dX12_unify_43 o_164 rfl rfl (Nat.le_of_ble_eq_true rfl) ⟨(Nat.le_of_ble_eq_true rfl), (Nat.le_of_ble_eq_true rfl)⟩ rfl rfl (Nat.le_of_ble_eq_true rfl) (Nat.le_of_ble_eq_true rfl) (fun r9 J_43 hq9 => ?_)
        obtain ⟨z_43, rfl, hz_43, rfl, f_43⟩ := hq9
        have y_43 : MZ J_43 J := MZ.tr y_31 (MZ.c f_43 (by decide))
        exact tz_iret (pc := 46) (z := z_31) dX12_unify_46 rfl (Nat.le_of_ble_eq_true rfl) (Nat.le_of_ble_eq_true rfl) ⟨Nat.le_refl _, Nat.le_add_right _ _⟩ ⟨_, rfl, (by omega), ⟨MQr.z hI y_43, MFI.z y_43, Or.inr ((uni_no z_318 (by omega)).elim (fun q => Or.inl ⟨by omega, q.1, q.2, MBT.z hI y_43, u9.z y_43⟩) (fun q => Or.inr (Or.inl ⟨by omega, q.1, q.2.1, q.2.2, MBT.z hI y_43, u9.z y_43⟩)))⟩⟩
    · refine tz_aload_n (pc := 21) dX12_unify_21 rfl rfl ?_
      refine tz_iconst (pc := 22) dX12_unify_22 ?_
      refine tz_iconst (pc := 23) dX12_unify_23 ?_
      refine tz_cV (pc := 24) (m_refuses hl n _ _ _ (by decide) (by decide) (by decide)) vl_X12_391 dX12_unify_24 o_164 rfl rfl (Nat.le_of_ble_eq_true rfl) ⟨(Nat.le_of_ble_eq_true rfl), (Nat.le_of_ble_eq_true rfl)⟩ rfl rfl (Nat.le_of_ble_eq_true rfl) (Nat.le_of_ble_eq_true rfl) (fun r9 J_24 hq9 => ?_)
      obtain ⟨z_24, rfl, hz_24, rfl, f_24⟩ := hq9
      have y_24 : MZ J_24 J := MZ.tr (MZ.up (k := 8) MZ.rf (by decide)) (MZ.c f_24 (by decide))
      exact tz_iret (pc := 27) (z := (-1)) dX12_unify_27 rfl (Nat.le_of_ble_eq_true rfl) (Nat.le_of_ble_eq_true rfl) ⟨Nat.le_refl _, Nat.le_add_right _ _⟩ ⟨_, rfl, (by decide), ⟨MQr.z hI y_24, MFI.z y_24, Or.inr (Or.inr (Or.inr ⟨by omega, rfl, MBT.z hI y_24, u9.z y_24⟩))⟩⟩

end
section
/-! ===== two pictures bind alike ===== -/
theorem sol_cg {S : zJ} {m s t : Int} {p : Int → Int} (u : UEX S m s t) (K : ∀ u v, VN 400 m u → VN 400 m v → (tp p u = tp p v ↔ LCu (VN 400 m) (hdN S 0) (arN S 0 0) (agN S 0) s t u v)) (hV : ∀ x i, VN 400 m x → 0 ≤ hdN S 0 x → 0 ≤ i → i < arN S 0 0 x → VN 400 m (agN S 0 x i)) : CGm (VN 400 m) (hdN S 0) (arN S 0 0) (agN S 0) (tp p) := fun x y hx hy e h1 h2 => by
  have w := (K x y hx hy).1 e
  obtain ⟨f, g, q⟩ := u
  have d1 := hdN_4 (S := S) hx
  have d2 := hdN_4 (S := S) hy
  have e0 := (g x y hx hy (w f g q) h1 h2).1
  refine ⟨e0, fun i i0 iA => ?_⟩
  have ea : arN S 0 0 y = arN S 0 0 x := by
    unfold arN mar
    unfold hdN at e0
    rw [e0]
  exact (K _ _ (hV x i hx h1 i0 iA) (hV y i hy h2 i0 (by omega))).2 (fun f' g' q' => (g' x y hx hy (w f' g' q') h1 h2).2 i i0 iA)
theorem OLD.r5 {m0 q z : Int} {S G : zJ} (o : OLD m0 S G) (hq : ¬ q = 0) : OLD m0 S (zup G 165 q z) := by
  obtain ⟨o1, o2, o3⟩ := o
  refine ⟨by rw [zup_ne (fun e => hq e.symm)]; exact o1, by rw [zup_nc (by decide)]; exact o2, fun t a b => ?_⟩
  rw [zup_nc (by decide), zup_nc (by decide)]
  exact o3 t a b
theorem OLD.of {m0 t v : Int} {S G : zJ} (o : OLD m0 S G) (h4 : m0 ≤ 400) (vu : VUN S m0) (hv : 0 ≤ v) (ht : 0 ≤ t ∧ t < m0) (e : S 166 (0 + t) = -1 - v) : ofi G (-1 - v) 0 0 0 = t := by
  obtain ⟨o1, o2, o3⟩ := o
  have ar : oar G (-1 - v) = 0 := by unfold oar arh; rw [if_pos (by omega)]
  unfold ofi
  refine fnB_eq ht.1 (by omega) (fun j a c => dcB_t (fun k => ?_)) (Or.inr (dcB_f (fun k => k ?_)))
  · have h6 := k.1
    have e6 := (o3 j (by omega) (by omega)).1
    have := vu t j ⟨by omega, by omega⟩ ⟨by omega, by omega⟩ (by omega) (by omega)
    omega
  · refine ⟨by rw [(o3 t ht.1 ht.2).1]; exact e, fun y => ?_, fun y => ?_, fun y => ?_⟩ <;> omega
theorem rho_v {S : zJ} {m0 s t x : Int} {p1 p2 sh1 sh2 lv1 lv2 ρ1 ρ2 : Int → Int} (U1 : UFp (VN 400 m0) p1) (S1 : SHp (VN 400 m0) (hdN S 0) p1 sh1 lv1) (K1 : ∀ u v, VN 400 m0 u → VN 400 m0 v → (tp p1 u = tp p1 v ↔ LCu (VN 400 m0) (hdN S 0) (arN S 0 0) (agN S 0) s t u v)) (R1 : RHO S m0 (tp p1) sh1 lv1 ρ1) (U2 : UFp (VN 400 m0) p2) (S2 : SHp (VN 400 m0) (hdN S 0) p2 sh2 lv2) (K2 : ∀ u v, VN 400 m0 u → VN 400 m0 v → (tp p2 u = tp p2 v ↔ LCu (VN 400 m0) (hdN S 0) (arN S 0 0) (agN S 0) s t u v)) (R2 : RHO S m0 (tp p2) sh2 lv2 ρ2) (vu : VUN S m0) (hx : VN 400 m0 x) (n : S 166 (0 + x) < 0) : ρ1 x = x → ρ2 x = x := fun e => by
  have r1 := U1.root hx
  have r2 := U2.root hx
  obtain ⟨a1, b1, c1⟩ := R1 x hx
  obtain ⟨a2, b2, c2⟩ := R2 x hx
  obtain ⟨x1, y1⟩ := S1 _ r1.2 r1.1
  obtain ⟨x2, y2⟩ := S2 _ r2.2 r2.1
  have tr : ∀ q, VN 400 m0 q → (tp p1 q = tp p1 x ↔ tp p2 q = tp p2 x) := fun q hq => by rw [K1 q x hq hx, K2 q x hq hx]
  by_cases n1 : sh1 (tp p1 x) = -1
  · have n2 : sh2 (tp p2 x) = -1 := Classical.byContradiction (fun n => by
      obtain ⟨q1, q2, q3⟩ := x2.resolve_left n
      have := ((y1 n1).1 _ q1 ((tr _ q1).2 q3)).1
      omega)
    have el : lv1 (tp p1 x) = lv2 (tp p2 x) := by
      obtain ⟨m1, v1, hv1, ev1, l1⟩ := y1 n1
      obtain ⟨m2, v2, hv2, ev2, l2⟩ := y2 n2
      have := (m1 v2 hv2 ((tr _ hv2).2 ev2)).2
      have := (m2 v1 hv1 ((tr _ hv1).1 ev1)).2
      omega
    have w1 := b1 n1
    have w2 := b2 n2
    rw [e] at w1
    exact (vu x (ρ2 x) hx a2 n (by omega)).symm
  · obtain ⟨q1, q2, q3⟩ := x1.resolve_left n1
    have w := c1 n1
    rw [e] at w
    rw [← w, (hdN_4 (S := S) hx).1] at q2
    omega
theorem sol_eq {S : zJ} {m s t b1 b2 : Int} {ρ1 ρ2 : Int → Int} (g1 : GSOL S m s t ρ1) (g2 : GSOL S m s t ρ2) (u : UEX S m s t) (hm : 0 ≤ m ∧ m ≤ 400) (hS : S 165 0 = m) (hV : ∀ x i, VN 400 m x → 0 ≤ hdN S 0 x → 0 ≤ i → i < arN S 0 0 x → VN 400 m (agN S 0 x i)) (vu : VUN S m) (hb : ∀ v, 0 ≤ v → v < 8 → (bt b1 v ↔ bt b2 v)) (hn : ∀ v, 0 ≤ v → v < 8 → bt b1 v → ∃ t, (0 ≤ t ∧ t < m) ∧ S 166 (0 + t) = -1 - v) : ∀ k : Nat, k ≤ 8 → bnO ρ1 b1 S k = bnO ρ2 b2 S k ∧ OLD m S (bnO ρ1 b1 S k)
  | 0, _ => ⟨rfl, by show m ≤ S 165 0; omega, rfl, fun _ _ _ => ⟨rfl, fun _ _ _ => rfl⟩⟩
  | k + 1, hk => by
    obtain ⟨ih, o⟩ := sol_eq g1 g2 u hm hS hV vu hb hn k (by omega)
    rw [bnO_s, bnO_s, ← ih]
    generalize bnO ρ1 b1 S k = G at o
    by_cases f : G 164 21 = 0
    · by_cases b : bt b1 (k : Int)
      · have b' := (hb k (by omega) (by omega)).1 b
        obtain ⟨x, hx, ex⟩ := hn k (by omega) (by omega) b
        have of9 := o.of hm.2 vu (by omega) hx ex
        have vx : VN 400 m x := ⟨by omega, by omega⟩
        obtain ⟨p1, sh1, lv1, U1, H1, K1, R1⟩ := g1
        obtain ⟨p2, sh2, lv2, U2, H2, K2, R2⟩ := g2
        have r12 := rho_v U1 H1 K1 R1 U2 H2 K2 R2 vu vx (by omega)
        have r21 := rho_v U2 H2 K2 R2 U1 H1 K1 R1 vu vx (by omega)
        by_cases r : ρ1 x = x
        · rw [bn1_i f b (by rw [of9]; exact r), bn1_i f b' (by rw [of9]; exact r12 r)]
          exact ⟨rfl, o.r5 (by omega)⟩
        · rw [bn1_g f b (by rw [of9]; exact r), bn1_g f b' (by rw [of9]; exact fun q => r (r21 q)), of9]
          have o2 : OLD m S (zup G 165 (1 + (k : Int)) 0) := o.r5 (by omega)
          have gq := rho_eq hm.1 U1 H1 K1 R1 U2 H2 K2 R2 (sol_cg u K1 hV) hV vu 6 _ x x o2 vx vx rfl
          rw [gq]
          exact ⟨rfl, (OLD.gr hm.1 6 _ x o2).r5 (by omega)⟩
      · have b' : ¬ bt b2 (k : Int) := fun q => b ((hb k (by omega) (by omega)).2 q)
        rw [bn1_n f b, bn1_n f b']
        exact ⟨rfl, o.r5 (by omega)⟩
    · rw [bn1_F f, bn1_F f]
      exact ⟨rfl, o⟩
/-- what a sound table of the reference gives for it -/
theorem tbz_V {J : zJ} {s m : Int} (hM : MS J 0 0 0 s m) : ∀ x i, VN 400 m x → 0 ≤ hdN (tbz J) 0 x → 0 ≤ i → i < arN (tbz J) 0 0 x → VN 400 m (agN (tbz J) 0 x i) := fun x i hx _ i0 iA => by
  have hT := hM.told
  obtain ⟨_, b, _, d⟩ := alk_z (H := J) hM rfl rfl rfl x hx
  have a3 := (hM.ar hx.z).1
  obtain ⟨_, b1, c1⟩ := hdN_4 (S := J) hx
  rw [b, b1] at iA
  have a := (hM.arg hx.z ⟨i0, iA⟩).1
  have z := hx.z
  rw [d i i0 (by omega), c1]
  exact ⟨by omega, by omega⟩
theorem tbz_u {J : zJ} {s m : Int} (hM : MS J 0 0 0 s m) : VUN (tbz J) m := fun a b ha hb h e => by
  have hT := hM.told
  have za := ha.z
  have zb := hb.z
  rw [tbz_6 (by omega)] at h e
  rw [tbz_6 (by omega)] at e
  exact ms_vu hM za zb h e
theorem tbz_n {J : zJ} {s m x y b : Int} (hM : MS J 0 0 0 s m) (hx : 0 ≤ x ∧ x < m) (hy : 0 ≤ y ∧ y < m) (h : ∀ v, 0 ≤ v → v < 8 → (bt b v ↔ Occ (tbz J) 0 0 x v ∨ Occ (tbz J) 0 0 y v)) : ∀ v, 0 ≤ v → v < 8 → bt b v → ∃ t, (0 ≤ t ∧ t < m) ∧ tbz J 166 (0 + t) = -1 - v := fun v p q w => by
  have hT := hM.told
  have oq : ∀ x, (0 ≤ x ∧ x < m) → Occ (tbz J) 0 0 x v → ∃ t, (0 ≤ t ∧ t < m) ∧ tbz J 166 (0 + t) = -1 - v := fun x hx o => by
    have o1 : Occ (tb0 J) 0 0 x v := o.elim (fun k o => ⟨k, (occ_cg (J' := zup (tb0 J) 164 21 0) (J := tb0 J) rfl rfl rfl k x v).1 o⟩)
    have o2 := (hM.oc hx).1 o1
    obtain ⟨k, o3⟩ := o2
    obtain ⟨t, ht, e⟩ := hM.ond k x v hx o3
    exact ⟨t, ht, by rw [tbz_6 (by omega)]; exact e⟩
  exact ((h v p q).1 w).elim (oq x hx) (oq y hy)
end
section
/-! ===== the class: a question leaves what is told alone ===== -/
theorem CAL.wk7 {X : List Nat} {J' J S : zJ} {pn m : Int} {RR : Int → Int → Int} (c : CAL J S pn RR) (hI : CI J m) (f : zOf (zbut X) J' J) (hX : (X.all fun c => decide (c = 17 ∨ 140 ≤ c)) = true) : CAL J' S pn RR := by
  have hn := hI.2.1
  have nn := c.2.2.1
  have hf : ∀ c, c < 140 → ¬ c = 17 → J' c = J c := fun c hc h7 => f c (by
    simp only [zbut, Bool.not_eq_true', List.contains_eq_mem, decide_eq_false_iff_not]
    intro q
    have := of_decide_eq_true (List.all_eq_true.mp hX c q)
    omega)
  exact ⟨c.1.f (fun q hq => hf q (by omega) (by omega)), by rw [hf 19 (by decide) (by decide)]; exact c.2.1, c.2.2.of (by omega) (hf 5 (by decide) (by decide)) (fun i a b => hf _ (by unfold zU; omega) (by unfold zU; omega))⟩
set_option maxHeartbeats 4000000 in
set_option maxRecDepth 100000 in
theorem l_count {l : Launch} {G : tb_G} (hl : l.stackTraces = false) (n : Nat) (J : zJ) (u : Int) (hr_u : -2147483648 ≤ u ∧ u < 2147483648) (m : Int) (S : zJ) (pn : Int) (RR : Int → Int → Int) (hI : CI J m) (h9 : J 145 10 < 1000000000) (cc : CAL J S pn RR) (h21 : S 164 21 = 0) : tz_Ok l G M_X11_count 7 1 6 [.ref 0, zi u] n J (zqi (fun z J' => CQ J' J ∧ CAL J' S pn RR)) (fun E J' => E = "java/util/NoSuchElementException" ∧ J = J') := by
  refine tz_Ok.of hl (by decide +kernel) rfl (tb_c1 rfl) (Nat.le_of_ble_eq_true rfl) ?_
  show tz_At l G M_X11_count (tb_rm 7 1 6) none (tb_ZM G 1 6 (zQ n 1 (zqi (fun z J' => CQ J' J ∧ CAL J' S pn RR))) (zX n 1 (fun E J' => E = "java/util/NoSuchElementException" ∧ J = J'))) 0 0 n J 0 [some (.ref 0), some (zi u), none] []
  have hC := hI.1.1.1
  have hm := hI.1.1.2.1
  have hL := hI.1.1.2.2
  have hb := hC.told
  refine tz_aload_n (pc := 0) dX11_count_0 rfl rfl ?_
  refine tz_fR (pc := 1) dX11_count_1 fl_X11_29 r_0_1 ?_
  refine tz_fR (pc := 4) dX11_count_4 fl_X11_156 r_5_1 ?_
  refine tz_fR (pc := 7) dX11_count_7 fl_X11_167 r_18_0 ?_
  refine tz_astore_n (pc := 10) (L2 := [_, _, _]) dX11_count_10 rfl (by decide) rfl ?_
  refine tz_iload_n (pc := 11) dX11_count_11 rfl rfl ?_
  by_cases hs_12 : u < 0 ∨ 16 < u
  · refine tz_tabOut (pc := 12) (tgt := 193) dX11_count_12 (by omega) hs_12 (by decide) ?_
    exact tz_throwN (pc := 193) (text := "no such count") th_X11_188_192 (by decide +kernel) rfl dX11_count_193 dX11_count_196 dX11_count_197 dX11_count_199 dX11_count_202 (Nat.le_of_ble_eq_true rfl) (Nat.le_of_ble_eq_true rfl) (Nat.le_of_ble_eq_true rfl) (Nat.le_of_ble_eq_true rfl) (Nat.le_of_ble_eq_true rfl) (Nat.le_of_ble_eq_true rfl) ⟨Nat.le_refl _, Nat.le_add_right _ _⟩ ⟨rfl, rfl⟩
  · have hs9 : u = 0 ∨ u = 1 ∨ u = 2 ∨ u = 3 ∨ u = 4 ∨ u = 5 ∨ u = 6 ∨ u = 7 ∨ u = 8 ∨ u = 9 ∨ u = 10 ∨ u = 11 ∨ u = 12 ∨ u = 13 ∨ u = 14 ∨ u = 15 ∨ u = 16 := by omega
    rcases hs9 with hc_12 | hc_12 | hc_12 | hc_12 | hc_12 | hc_12 | hc_12 | hc_12 | hc_12 | hc_12 | hc_12 | hc_12 | hc_12 | hc_12 | hc_12 | hc_12 | hc_12
    · refine tz_tabIn (pc := 12) (tgt := 96) 0 dX11_count_12 hc_12 (by decide) rfl (by decide) ?_
      refine tz_aload_n (pc := 96) dX11_count_96 rfl rfl ?_
      refine tz_fR (pc := 97) dX11_count_97 fl_X11_10 r_0_0 ?_
      refine tz_fI (pc := 100) (kz := 3) (v := (J 1 3)) dX11_count_100 fl_X11_170 i_1_3 rfl rfl (fun r_100 => ?_)
      exact tz_iret (pc := 103) (z := (J 1 3)) dX11_count_103 rfl (Nat.le_of_ble_eq_true rfl) (Nat.le_of_ble_eq_true rfl) ⟨Nat.le_refl _, Nat.le_add_right _ _⟩ ⟨_, rfl, (by omega), (by first | exact (by have hw := hI.uni u3 rfl u1; exact ⟨⟨⟨m, hw.1⟩, by omega, hw.2.1, hw.2.2⟩, cc.wk7 hI u3 rfl⟩) | exact ⟨CQ.rf hI, cc⟩)⟩
    · refine tz_tabIn (pc := 12) (tgt := 104) 1 dX11_count_12 hc_12 (by decide) rfl (by decide) ?_
      refine tz_aload_n (pc := 104) dX11_count_104 rfl rfl ?_
      refine tz_fR (pc := 105) dX11_count_105 fl_X11_29 r_0_1 ?_
      refine tz_fR (pc := 108) dX11_count_108 fl_X11_49 r_5_0 ?_
      refine tz_fI (pc := 111) (kz := 12) (v := (J 6 12)) dX11_count_111 fl_X11_173 i_6_12 rfl rfl (fun r_111 => ?_)
      exact tz_iret (pc := 114) (z := (J 6 12)) dX11_count_114 rfl (Nat.le_of_ble_eq_true rfl) (Nat.le_of_ble_eq_true rfl) ⟨Nat.le_refl _, Nat.le_add_right _ _⟩ ⟨_, rfl, (by omega), (by first | exact (by have hw := hI.uni u3 rfl u1; exact ⟨⟨⟨m, hw.1⟩, by omega, hw.2.1, hw.2.2⟩, cc.wk7 hI u3 rfl⟩) | exact ⟨CQ.rf hI, cc⟩)⟩
    · refine tz_tabIn (pc := 12) (tgt := 115) 2 dX11_count_12 hc_12 (by decide) rfl (by decide) ?_
      refine tz_aload_n (pc := 115) dX11_count_115 rfl rfl ?_
      refine tz_iconst (pc := 116) dX11_count_116 ?_
      refine tz_aL (pc := 117) (z := 4) (v := (J 19 4)) dX11_count_117 a_19 rfl (by decide) rfl (fun r_117 => ?_)
      exact tz_iret (pc := 118) (z := (J 19 4)) dX11_count_118 rfl (Nat.le_of_ble_eq_true rfl) (Nat.le_of_ble_eq_true rfl) ⟨Nat.le_refl _, Nat.le_add_right _ _⟩ ⟨_, rfl, (by omega), (by first | exact (by have hw := hI.uni u3 rfl u1; exact ⟨⟨⟨m, hw.1⟩, by omega, hw.2.1, hw.2.2⟩, cc.wk7 hI u3 rfl⟩) | exact ⟨CQ.rf hI, cc⟩)⟩
    · refine tz_tabIn (pc := 12) (tgt := 119) 3 dX11_count_12 hc_12 (by decide) rfl (by decide) ?_
      refine tz_aload_n (pc := 119) dX11_count_119 rfl rfl ?_
      refine tz_iconst (pc := 120) dX11_count_120 ?_
      refine tz_aL (pc := 121) (z := 5) (v := (J 19 5)) dX11_count_121 a_19 rfl (by decide) rfl (fun r_121 => ?_)
      exact tz_iret (pc := 122) (z := (J 19 5)) dX11_count_122 rfl (Nat.le_of_ble_eq_true rfl) (Nat.le_of_ble_eq_true rfl) ⟨Nat.le_refl _, Nat.le_add_right _ _⟩ ⟨_, rfl, (by omega), (by first | exact (by have hw := hI.uni u3 rfl u1; exact ⟨⟨⟨m, hw.1⟩, by omega, hw.2.1, hw.2.2⟩, cc.wk7 hI u3 rfl⟩) | exact ⟨CQ.rf hI, cc⟩)⟩
    · refine tz_tabIn (pc := 12) (tgt := 123) 4 dX11_count_12 hc_12 (by decide) rfl (by decide) ?_
      refine tz_aload_n (pc := 123) dX11_count_123 rfl rfl ?_
      refine tz_iconst (pc := 124) dX11_count_124 ?_
      refine tz_aL (pc := 125) (z := 1) (v := (J 19 1)) dX11_count_125 a_19 rfl (by decide) rfl (fun r_125 => ?_)
      exact tz_iret (pc := 126) (z := (J 19 1)) dX11_count_126 rfl (Nat.le_of_ble_eq_true rfl) (Nat.le_of_ble_eq_true rfl) ⟨Nat.le_refl _, Nat.le_add_right _ _⟩ ⟨_, rfl, (by omega), (by first | exact (by have hw := hI.uni u3 rfl u1; exact ⟨⟨⟨m, hw.1⟩, by omega, hw.2.1, hw.2.2⟩, cc.wk7 hI u3 rfl⟩) | exact ⟨CQ.rf hI, cc⟩)⟩
    · refine tz_tabIn (pc := 12) (tgt := 127) 5 dX11_count_12 hc_12 (by decide) rfl (by decide) ?_
      refine tz_aload_n (pc := 127) dX11_count_127 rfl rfl ?_
      refine tz_bipush (pc := 128) dX11_count_128 (by decide) ?_
      refine tz_aL (pc := 130) (z := 6) (v := (J 19 6)) dX11_count_130 a_19 rfl (by decide) rfl (fun r_130 => ?_)
      exact tz_iret (pc := 131) (z := (J 19 6)) dX11_count_131 rfl (Nat.le_of_ble_eq_true rfl) (Nat.le_of_ble_eq_true rfl) ⟨Nat.le_refl _, Nat.le_add_right _ _⟩ ⟨_, rfl, (by omega), (by first | exact (by have hw := hI.uni u3 rfl u1; exact ⟨⟨⟨m, hw.1⟩, by omega, hw.2.1, hw.2.2⟩, cc.wk7 hI u3 rfl⟩) | exact ⟨CQ.rf hI, cc⟩)⟩
    · refine tz_tabIn (pc := 12) (tgt := 132) 6 dX11_count_12 hc_12 (by decide) rfl (by decide) ?_
      refine tz_aload_n (pc := 132) dX11_count_132 rfl rfl ?_
      refine tz_iconst (pc := 133) dX11_count_133 ?_
      refine tz_aL (pc := 134) (z := 2) (v := (J 19 2)) dX11_count_134 a_19 rfl (by decide) rfl (fun r_134 => ?_)
      exact tz_iret (pc := 135) (z := (J 19 2)) dX11_count_135 rfl (Nat.le_of_ble_eq_true rfl) (Nat.le_of_ble_eq_true rfl) ⟨Nat.le_refl _, Nat.le_add_right _ _⟩ ⟨_, rfl, (by omega), (by first | exact (by have hw := hI.uni u3 rfl u1; exact ⟨⟨⟨m, hw.1⟩, by omega, hw.2.1, hw.2.2⟩, cc.wk7 hI u3 rfl⟩) | exact ⟨CQ.rf hI, cc⟩)⟩
    · refine tz_tabIn (pc := 12) (tgt := 136) 7 dX11_count_12 hc_12 (by decide) rfl (by decide) ?_
      refine tz_aload_n (pc := 136) dX11_count_136 rfl rfl ?_
      refine tz_iconst (pc := 137) dX11_count_137 ?_
      refine tz_aL (pc := 138) (z := 3) (v := (J 19 3)) dX11_count_138 a_19 rfl (by decide) rfl (fun r_138 => ?_)
      exact tz_iret (pc := 139) (z := (J 19 3)) dX11_count_139 rfl (Nat.le_of_ble_eq_true rfl) (Nat.le_of_ble_eq_true rfl) ⟨Nat.le_refl _, Nat.le_add_right _ _⟩ ⟨_, rfl, (by omega), (by first | exact (by have hw := hI.uni u3 rfl u1; exact ⟨⟨⟨m, hw.1⟩, by omega, hw.2.1, hw.2.2⟩, cc.wk7 hI u3 rfl⟩) | exact ⟨CQ.rf hI, cc⟩)⟩
    · refine tz_tabIn (pc := 12) (tgt := 140) 8 dX11_count_12 hc_12 (by decide) rfl (by decide) ?_
      refine tz_aload_n (pc := 140) dX11_count_140 rfl rfl ?_
      refine tz_fR (pc := 141) dX11_count_141 fl_X11_29 r_0_1 ?_
      refine tz_fR (pc := 144) dX11_count_144 fl_X11_49 r_5_0 ?_
      refine tz_cV (pc := 147) (c_unlike hl n _ m hm hb.2) vl_X11_176 dX11_count_147 o_6 rfl rfl (Nat.le_of_ble_eq_true rfl) ⟨(Nat.le_of_ble_eq_true rfl), (Nat.le_of_ble_eq_true rfl)⟩ rfl rfl (Nat.le_of_ble_eq_true rfl) (Nat.le_of_ble_eq_true rfl) (fun r9 J_147 hq9 => ?_)
      obtain ⟨z_147, rfl, hz_147, rfl⟩ := hq9
      exact tz_iret (pc := 150) (z := z_147) dX11_count_150 rfl (Nat.le_of_ble_eq_true rfl) (Nat.le_of_ble_eq_true rfl) ⟨Nat.le_refl _, Nat.le_add_right _ _⟩ ⟨_, rfl, (by omega), (by first | exact (by have hw := hI.uni u3 rfl u1; exact ⟨⟨⟨m, hw.1⟩, by omega, hw.2.1, hw.2.2⟩, cc.wk7 hI u3 rfl⟩) | exact ⟨CQ.rf hI, cc⟩)⟩
    · refine tz_tabIn (pc := 12) (tgt := 151) 9 dX11_count_12 hc_12 (by decide) rfl (by decide) ?_
      refine tz_aload_n (pc := 151) dX11_count_151 rfl rfl ?_
      refine tz_fR (pc := 152) dX11_count_152 fl_X11_81 r_0_9 ?_
      refine tz_cV (pc := 155) (c_meetings hl n _ m hC hL hI.1.2.1 (by omega)) vl_X11_179 dX11_count_155 o_155 rfl rfl (Nat.le_of_ble_eq_true rfl) ⟨(Nat.le_of_ble_eq_true rfl), (Nat.le_of_ble_eq_true rfl)⟩ rfl rfl (Nat.le_of_ble_eq_true rfl) (Nat.le_of_ble_eq_true rfl) (fun r9 J_155 hq9 => ?_)
      obtain ⟨z_155, rfl, hz_155, u1, u2, u3⟩ := hq9
      exact tz_iret (pc := 158) (z := z_155) dX11_count_158 rfl (Nat.le_of_ble_eq_true rfl) (Nat.le_of_ble_eq_true rfl) ⟨Nat.le_refl _, Nat.le_add_right _ _⟩ ⟨_, rfl, (by omega), (by first | exact (by have hw := hI.uni u3 rfl u1; exact ⟨⟨⟨m, hw.1⟩, by omega, hw.2.1, hw.2.2⟩, cc.wk7 hI u3 rfl⟩) | exact ⟨CQ.rf hI, cc⟩)⟩
    · refine tz_tabIn (pc := 12) (tgt := 159) 10 dX11_count_12 hc_12 (by decide) rfl (by decide) ?_
      refine tz_aload_n (pc := 159) dX11_count_159 rfl rfl ?_
      refine tz_fR (pc := 160) dX11_count_160 fl_X11_81 r_0_9 ?_
      refine tz_cV (pc := 163) (c_firstMeet hl n _ m hC hL hI.1.2.1 (by omega)) vl_X11_182 dX11_count_163 o_155 rfl rfl (Nat.le_of_ble_eq_true rfl) ⟨(Nat.le_of_ble_eq_true rfl), (Nat.le_of_ble_eq_true rfl)⟩ rfl rfl (Nat.le_of_ble_eq_true rfl) (Nat.le_of_ble_eq_true rfl) (fun r9 J_163 hq9 => ?_)
      obtain ⟨z_163, rfl, hz_163, u1, u2, u3⟩ := hq9
      exact tz_iret (pc := 166) (z := z_163) dX11_count_166 rfl (Nat.le_of_ble_eq_true rfl) (Nat.le_of_ble_eq_true rfl) ⟨Nat.le_refl _, Nat.le_add_right _ _⟩ ⟨_, rfl, (by omega), (by first | exact (by have hw := hI.uni u3 rfl u1; exact ⟨⟨⟨m, hw.1⟩, by omega, hw.2.1, hw.2.2⟩, cc.wk7 hI u3 rfl⟩) | exact ⟨CQ.rf hI, cc⟩)⟩
    · refine tz_tabIn (pc := 12) (tgt := 167) 11 dX11_count_12 hc_12 (by decide) rfl (by decide) ?_
      refine tz_aload_n (pc := 167) dX11_count_167 rfl rfl ?_
      refine tz_fR (pc := 168) dX11_count_168 fl_X11_29 r_0_1 ?_
      refine tz_fI (pc := 171) (kz := 6) (v := (J 5 6)) dX11_count_171 fl_X11_185 i_5_6 rfl rfl (fun r_171 => ?_)
      exact tz_iret (pc := 174) (z := (J 5 6)) dX11_count_174 rfl (Nat.le_of_ble_eq_true rfl) (Nat.le_of_ble_eq_true rfl) ⟨Nat.le_refl _, Nat.le_add_right _ _⟩ ⟨_, rfl, (by omega), (by first | exact (by have hw := hI.uni u3 rfl u1; exact ⟨⟨⟨m, hw.1⟩, by omega, hw.2.1, hw.2.2⟩, cc.wk7 hI u3 rfl⟩) | exact ⟨CQ.rf hI, cc⟩)⟩
    · refine tz_tabIn (pc := 12) (tgt := 175) 12 dX11_count_12 hc_12 (by decide) rfl (by decide) ?_
      refine tz_aload_n (pc := 175) dX11_count_175 rfl rfl ?_
      refine tz_fI (pc := 176) (kz := 13) (v := (J 0 13)) dX11_count_176 fl_X11_107 i_0_13 rfl rfl (fun r_176 => ?_)
      exact tz_iret (pc := 179) (z := (J 0 13)) dX11_count_179 rfl (Nat.le_of_ble_eq_true rfl) (Nat.le_of_ble_eq_true rfl) ⟨Nat.le_refl _, Nat.le_add_right _ _⟩ ⟨_, rfl, (by omega), (by first | exact (by have hw := hI.uni u3 rfl u1; exact ⟨⟨⟨m, hw.1⟩, by omega, hw.2.1, hw.2.2⟩, cc.wk7 hI u3 rfl⟩) | exact ⟨CQ.rf hI, cc⟩)⟩
    · refine tz_tabIn (pc := 12) (tgt := 180) 13 dX11_count_12 hc_12 (by decide) rfl (by decide) ?_
      refine tz_aload_n (pc := 180) dX11_count_180 rfl rfl ?_
      refine tz_fR (pc := 181) dX11_count_181 fl_X11_29 r_0_1 ?_
      refine tz_fR (pc := 184) dX11_count_184 fl_X11_142 r_5_4 ?_
      refine tz_iload_n (pc := 187) dX11_count_187 rfl rfl ?_
      refine tz_bipush (pc := 188) dX11_count_188 (by decide) ?_
      refine tz_isub (pc := 190) (v := u - 13) dX11_count_190 rfl ?_
      refine tz_aL (pc := 191) (z := (u - 13)) (v := (J 62 (u - 13))) dX11_count_191 a_62 rfl (by omega) rfl (fun r_191 => ?_)
      exact tz_iret (pc := 192) (z := (J 62 (u - 13))) dX11_count_192 rfl (Nat.le_of_ble_eq_true rfl) (Nat.le_of_ble_eq_true rfl) ⟨Nat.le_refl _, Nat.le_add_right _ _⟩ ⟨_, rfl, (by omega), (by first | exact (by have hw := hI.uni u3 rfl u1; exact ⟨⟨⟨m, hw.1⟩, by omega, hw.2.1, hw.2.2⟩, cc.wk7 hI u3 rfl⟩) | exact ⟨CQ.rf hI, cc⟩)⟩
    · refine tz_tabIn (pc := 12) (tgt := 180) 14 dX11_count_12 hc_12 (by decide) rfl (by decide) ?_
      refine tz_aload_n (pc := 180) dX11_count_180 rfl rfl ?_
      refine tz_fR (pc := 181) dX11_count_181 fl_X11_29 r_0_1 ?_
      refine tz_fR (pc := 184) dX11_count_184 fl_X11_142 r_5_4 ?_
      refine tz_iload_n (pc := 187) dX11_count_187 rfl rfl ?_
      refine tz_bipush (pc := 188) dX11_count_188 (by decide) ?_
      refine tz_isub (pc := 190) (v := u - 13) dX11_count_190 rfl ?_
      refine tz_aL (pc := 191) (z := (u - 13)) (v := (J 62 (u - 13))) dX11_count_191 a_62 rfl (by omega) rfl (fun r_191 => ?_)
      exact tz_iret (pc := 192) (z := (J 62 (u - 13))) dX11_count_192 rfl (Nat.le_of_ble_eq_true rfl) (Nat.le_of_ble_eq_true rfl) ⟨Nat.le_refl _, Nat.le_add_right _ _⟩ ⟨_, rfl, (by omega), (by first | exact (by have hw := hI.uni u3 rfl u1; exact ⟨⟨⟨m, hw.1⟩, by omega, hw.2.1, hw.2.2⟩, cc.wk7 hI u3 rfl⟩) | exact ⟨CQ.rf hI, cc⟩)⟩
    · refine tz_tabIn (pc := 12) (tgt := 180) 15 dX11_count_12 hc_12 (by decide) rfl (by decide) ?_
      refine tz_aload_n (pc := 180) dX11_count_180 rfl rfl ?_
      refine tz_fR (pc := 181) dX11_count_181 fl_X11_29 r_0_1 ?_
      refine tz_fR (pc := 184) dX11_count_184 fl_X11_142 r_5_4 ?_
      refine tz_iload_n (pc := 187) dX11_count_187 rfl rfl ?_
      refine tz_bipush (pc := 188) dX11_count_188 (by decide) ?_
      refine tz_isub (pc := 190) (v := u - 13) dX11_count_190 rfl ?_
      refine tz_aL (pc := 191) (z := (u - 13)) (v := (J 62 (u - 13))) dX11_count_191 a_62 rfl (by omega) rfl (fun r_191 => ?_)
      exact tz_iret (pc := 192) (z := (J 62 (u - 13))) dX11_count_192 rfl (Nat.le_of_ble_eq_true rfl) (Nat.le_of_ble_eq_true rfl) ⟨Nat.le_refl _, Nat.le_add_right _ _⟩ ⟨_, rfl, (by omega), (by first | exact (by have hw := hI.uni u3 rfl u1; exact ⟨⟨⟨m, hw.1⟩, by omega, hw.2.1, hw.2.2⟩, cc.wk7 hI u3 rfl⟩) | exact ⟨CQ.rf hI, cc⟩)⟩
    · refine tz_tabIn (pc := 12) (tgt := 180) 16 dX11_count_12 hc_12 (by decide) rfl (by decide) ?_
      refine tz_aload_n (pc := 180) dX11_count_180 rfl rfl ?_
      refine tz_fR (pc := 181) dX11_count_181 fl_X11_29 r_0_1 ?_
      refine tz_fR (pc := 184) dX11_count_184 fl_X11_142 r_5_4 ?_
      refine tz_iload_n (pc := 187) dX11_count_187 rfl rfl ?_
      refine tz_bipush (pc := 188) dX11_count_188 (by decide) ?_
      refine tz_isub (pc := 190) (v := u - 13) dX11_count_190 rfl ?_
      refine tz_aL (pc := 191) (z := (u - 13)) (v := (J 62 (u - 13))) dX11_count_191 a_62 rfl (by omega) rfl (fun r_191 => ?_)
      exact tz_iret (pc := 192) (z := (J 62 (u - 13))) dX11_count_192 rfl (Nat.le_of_ble_eq_true rfl) (Nat.le_of_ble_eq_true rfl) ⟨Nat.le_refl _, Nat.le_add_right _ _⟩ ⟨_, rfl, (by omega), (by first | exact (by have hw := hI.uni u3 rfl u1; exact ⟨⟨⟨m, hw.1⟩, by omega, hw.2.1, hw.2.2⟩, cc.wk7 hI u3 rfl⟩) | exact ⟨CQ.rf hI, cc⟩)⟩

set_option maxHeartbeats 4000000 in
set_option maxRecDepth 100000 in
theorem l_symbol {l : Launch} {G : tb_G} (hl : l.stackTraces = false) (n : Nat) (J : zJ) (s : Int) (u : Int) (hr_s : -2147483648 ≤ s ∧ s < 2147483648) (hr_u : -2147483648 ≤ u ∧ u < 2147483648) (m : Int) (S : zJ) (pn : Int) (RR : Int → Int → Int) (hI : CI J m) (h9 : J 145 10 < 1000000000) (cc : CAL J S pn RR) (h21 : S 164 21 = 0) : tz_Ok l G M_X11_symbol 12 1 6 [.ref 0, zi s, zi u] n J (zqi (fun z J' => CQ J' J ∧ CAL J' S pn RR)) (fun E J' => E = "java/util/NoSuchElementException" ∧ J = J') := by
  refine tz_Ok.of hl (by decide +kernel) rfl (tb_c1 rfl) (Nat.le_of_ble_eq_true rfl) ?_
  show tz_At l G M_X11_symbol (tb_rm 12 1 6) none (tb_ZM G 1 6 (zQ n 1 (zqi (fun z J' => CQ J' J ∧ CAL J' S pn RR))) (zX n 1 (fun E J' => E = "java/util/NoSuchElementException" ∧ J = J'))) 0 0 n J 0 [some (.ref 0), some (zi s), some (zi u)] []
  have hC := hI.1.1.1
  have hm := hI.1.1.2.1
  have hL := hI.1.1.2.2
  have hb := hC.told
  refine tz_aload_n (pc := 0) dX11_symbol_0 rfl rfl ?_
  refine tz_fR (pc := 1) dX11_symbol_1 fl_X11_10 r_0_0 ?_
  refine tz_iload_n (pc := 4) dX11_symbol_4 rfl rfl ?_
  refine tz_cV (pc := 5) (c_syHas hl n _ _ (by omega)) vl_X11_193 dX11_symbol_5 o_1 rfl rfl (Nat.le_of_ble_eq_true rfl) ⟨(Nat.le_of_ble_eq_true rfl), (Nat.le_of_ble_eq_true rfl)⟩ rfl rfl (Nat.le_of_ble_eq_true rfl) (Nat.le_of_ble_eq_true rfl) (fun r9 J_5 hq9 => ?_)
  obtain ⟨z_5, rfl, hz_5, rfl, rfl⟩ := hq9
  by_cases hw_8 : 0 ≤ s ∧ s < J 1 3
  · rw [show (if 0 ≤ s ∧ s < J 1 3 then 1 else 0 : Int) = 1 from if_pos hw_8]
    refine tz_if_neT (pc := 8) (tgt := 21) (by decide) dX11_symbol_8 (by decide) (by decide) ?_
    refine tz_iload_n (pc := 21) dX11_symbol_21 rfl rfl ?_
    by_cases hs_22 : u < 0 ∨ 4 < u
    · refine tz_tabOut (pc := 22) (tgt := 104) dX11_symbol_22 (by omega) hs_22 (by decide) ?_
      exact tz_throwN (pc := 104) (text := "no such question of a symbol") th_X11_188_192 (by decide +kernel) rfl dX11_symbol_104 dX11_symbol_107 dX11_symbol_108 dX11_symbol_110 dX11_symbol_113 (Nat.le_of_ble_eq_true rfl) (Nat.le_of_ble_eq_true rfl) (Nat.le_of_ble_eq_true rfl) (Nat.le_of_ble_eq_true rfl) (Nat.le_of_ble_eq_true rfl) (Nat.le_of_ble_eq_true rfl) ⟨Nat.le_refl _, Nat.le_add_right _ _⟩ ⟨rfl, rfl⟩
    · have hs9 : u = 0 ∨ u = 1 ∨ u = 2 ∨ u = 3 ∨ u = 4 := by omega
      rcases hs9 with hc_22 | hc_22 | hc_22 | hc_22 | hc_22
      · refine tz_tabIn (pc := 22) (tgt := 56) 0 dX11_symbol_22 hc_22 (by decide) rfl (by decide) ?_
        refine tz_aload_n (pc := 56) dX11_symbol_56 rfl rfl ?_
        refine tz_fR (pc := 57) dX11_symbol_57 fl_X11_10 r_0_0 ?_
        refine tz_fR (pc := 60) dX11_symbol_60 fl_X11_199 r_1_0 ?_
        refine tz_iload_n (pc := 63) dX11_symbol_63 rfl rfl ?_
        refine tz_aL (pc := 64) (z := s) (v := (J 2 s)) dX11_symbol_64 a_2 rfl (by omega) rfl (fun r_64 => ?_)
        exact tz_iret (pc := 65) (z := (J 2 s)) dX11_symbol_65 rfl (Nat.le_of_ble_eq_true rfl) (Nat.le_of_ble_eq_true rfl) ⟨Nat.le_refl _, Nat.le_add_right _ _⟩ ⟨_, rfl, (by omega), (by first | exact (by have hw := hI.work6 f1 rfl (k1 hI.1.2.2.1.2); exact ⟨⟨⟨m, hw.1⟩, by rw [hw.2.1]; omega, hw.2.2.1, hw.2.2.2⟩, cc.wk7 hI f1 rfl⟩) | exact ⟨CQ.rf hI, cc⟩)⟩
      · refine tz_tabIn (pc := 22) (tgt := 66) 1 dX11_symbol_22 hc_22 (by decide) rfl (by decide) ?_
        refine tz_aload_n (pc := 66) dX11_symbol_66 rfl rfl ?_
        refine tz_fR (pc := 67) dX11_symbol_67 fl_X11_10 r_0_0 ?_
        refine tz_fR (pc := 70) dX11_symbol_70 fl_X11_202 r_1_1 ?_
        refine tz_iload_n (pc := 73) dX11_symbol_73 rfl rfl ?_
        refine tz_aL (pc := 74) (z := s) (v := (J 3 s)) dX11_symbol_74 a_3 rfl (by omega) rfl (fun r_74 => ?_)
        exact tz_iret (pc := 75) (z := (J 3 s)) dX11_symbol_75 rfl (Nat.le_of_ble_eq_true rfl) (Nat.le_of_ble_eq_true rfl) ⟨Nat.le_refl _, Nat.le_add_right _ _⟩ ⟨_, rfl, (by omega), (by first | exact (by have hw := hI.work6 f1 rfl (k1 hI.1.2.2.1.2); exact ⟨⟨⟨m, hw.1⟩, by rw [hw.2.1]; omega, hw.2.2.1, hw.2.2.2⟩, cc.wk7 hI f1 rfl⟩) | exact ⟨CQ.rf hI, cc⟩)⟩
      · refine tz_tabIn (pc := 22) (tgt := 76) 2 dX11_symbol_22 hc_22 (by decide) rfl (by decide) ?_
        refine tz_aload_n (pc := 76) dX11_symbol_76 rfl rfl ?_
        refine tz_fR (pc := 77) dX11_symbol_77 fl_X11_10 r_0_0 ?_
        refine tz_fR (pc := 80) dX11_symbol_80 fl_X11_205 r_1_2 ?_
        refine tz_iload_n (pc := 83) dX11_symbol_83 rfl rfl ?_
        refine tz_aL (pc := 84) (z := s) (v := (J 4 s)) dX11_symbol_84 a_4 rfl (by omega) rfl (fun r_84 => ?_)
        exact tz_iret (pc := 85) (z := (J 4 s)) dX11_symbol_85 rfl (Nat.le_of_ble_eq_true rfl) (Nat.le_of_ble_eq_true rfl) ⟨Nat.le_refl _, Nat.le_add_right _ _⟩ ⟨_, rfl, (by omega), (by first | exact (by have hw := hI.work6 f1 rfl (k1 hI.1.2.2.1.2); exact ⟨⟨⟨m, hw.1⟩, by rw [hw.2.1]; omega, hw.2.2.1, hw.2.2.2⟩, cc.wk7 hI f1 rfl⟩) | exact ⟨CQ.rf hI, cc⟩)⟩
      · refine tz_tabIn (pc := 22) (tgt := 86) 3 dX11_symbol_22 hc_22 (by decide) rfl (by decide) ?_
        refine tz_aload_n (pc := 86) dX11_symbol_86 rfl rfl ?_
        refine tz_fR (pc := 87) dX11_symbol_87 fl_X11_81 r_0_9 ?_
        refine tz_iload_n (pc := 90) dX11_symbol_90 rfl rfl ?_
        refine tz_cV (pc := 91) (c_fits hl n _ _ (by omega) m hC hm hL) vl_X11_208 dX11_symbol_91 o_155 rfl rfl (Nat.le_of_ble_eq_true rfl) ⟨(Nat.le_of_ble_eq_true rfl), (Nat.le_of_ble_eq_true rfl)⟩ rfl rfl (Nat.le_of_ble_eq_true rfl) (Nat.le_of_ble_eq_true rfl) (fun r9 J_91 hq9 => ?_)
        obtain ⟨z_91, rfl, hz_91, f1, k1⟩ := hq9
        exact tz_iret (pc := 94) (z := z_91) dX11_symbol_94 rfl (Nat.le_of_ble_eq_true rfl) (Nat.le_of_ble_eq_true rfl) ⟨Nat.le_refl _, Nat.le_add_right _ _⟩ ⟨_, rfl, (by omega), (by first | exact (by have hw := hI.work6 f1 rfl (k1 hI.1.2.2.1.2); exact ⟨⟨⟨m, hw.1⟩, by rw [hw.2.1]; omega, hw.2.2.1, hw.2.2.2⟩, cc.wk7 hI f1 rfl⟩) | exact ⟨CQ.rf hI, cc⟩)⟩
      · refine tz_tabIn (pc := 22) (tgt := 95) 4 dX11_symbol_22 hc_22 (by decide) rfl (by decide) ?_
        refine tz_aload_n (pc := 95) dX11_symbol_95 rfl rfl ?_
        refine tz_fR (pc := 96) dX11_symbol_96 fl_X11_81 r_0_9 ?_
        refine tz_iload_n (pc := 99) dX11_symbol_99 rfl rfl ?_
        refine tz_cV (pc := 100) (c_leastFit hl n _ _ (by omega) m hC hm hL) vl_X11_211 dX11_symbol_100 o_155 rfl rfl (Nat.le_of_ble_eq_true rfl) ⟨(Nat.le_of_ble_eq_true rfl), (Nat.le_of_ble_eq_true rfl)⟩ rfl rfl (Nat.le_of_ble_eq_true rfl) (Nat.le_of_ble_eq_true rfl) (fun r9 J_100 hq9 => ?_)
        obtain ⟨z_100, rfl, hz_100, f1, k1⟩ := hq9
        exact tz_iret (pc := 103) (z := z_100) dX11_symbol_103 rfl (Nat.le_of_ble_eq_true rfl) (Nat.le_of_ble_eq_true rfl) ⟨Nat.le_refl _, Nat.le_add_right _ _⟩ ⟨_, rfl, (by omega), (by first | exact (by have hw := hI.work6 f1 rfl (k1 hI.1.2.2.1.2); exact ⟨⟨⟨m, hw.1⟩, by rw [hw.2.1]; omega, hw.2.2.1, hw.2.2.2⟩, cc.wk7 hI f1 rfl⟩) | exact ⟨CQ.rf hI, cc⟩)⟩
  · rw [show (if 0 ≤ s ∧ s < J 1 3 then 1 else 0 : Int) = 0 from if_neg hw_8]
    refine tz_if_neF (pc := 8) (tgt := 21) (by decide) dX11_symbol_8 (by decide) (by decide) ?_
    exact tz_throwN (pc := 11) (text := "no such symbol") th_X11_188_192 (by decide +kernel) rfl dX11_symbol_11 dX11_symbol_14 dX11_symbol_15 dX11_symbol_17 dX11_symbol_20 (Nat.le_of_ble_eq_true rfl) (Nat.le_of_ble_eq_true rfl) (Nat.le_of_ble_eq_true rfl) (Nat.le_of_ble_eq_true rfl) (Nat.le_of_ble_eq_true rfl) (Nat.le_of_ble_eq_true rfl) ⟨Nat.le_refl _, Nat.le_add_right _ _⟩ ⟨rfl, rfl⟩

set_option maxHeartbeats 4000000 in
set_option maxRecDepth 100000 in
theorem l_term {l : Launch} {G : tb_G} (hl : l.stackTraces = false) (n : Nat) (J : zJ) (t : Int) (u : Int) (hr_t : -2147483648 ≤ t ∧ t < 2147483648) (hr_u : -2147483648 ≤ u ∧ u < 2147483648) (m : Int) (S : zJ) (pn : Int) (RR : Int → Int → Int) (hI : CI J m) (h9 : J 145 10 < 1000000000) (cc : CAL J S pn RR) (h21 : S 164 21 = 0) : tz_Ok l G M_X11_term 10 1 6 [.ref 0, zi t, zi u] n J (zqi (fun z J' => CQ J' J ∧ CAL J' S pn RR)) (fun E J' => E = "java/util/NoSuchElementException" ∧ J = J') := by
  refine tz_Ok.of hl (by decide +kernel) rfl (tb_c1 rfl) (Nat.le_of_ble_eq_true rfl) ?_
  show tz_At l G M_X11_term (tb_rm 10 1 6) none (tb_ZM G 1 6 (zQ n 1 (zqi (fun z J' => CQ J' J ∧ CAL J' S pn RR))) (zX n 1 (fun E J' => E = "java/util/NoSuchElementException" ∧ J = J'))) 0 0 n J 0 [some (.ref 0), some (zi t), some (zi u), none] []
  have hC := hI.1.1.1
  have hm := hI.1.1.2.1
  have hL := hI.1.1.2.2
  have hb := hC.told
  refine tz_aload_n (pc := 0) dX11_term_0 rfl rfl ?_
  refine tz_iload_n (pc := 1) dX11_term_1 rfl rfl ?_
  by_cases hh_2 : 0 ≤ t ∧ t < J 6 12
  · refine tz_cV (pc := 2) (c_need1 hl n _ _ (by omega) hh_2) vl_X11_216 dX11_term_2 o_0 rfl rfl (Nat.le_of_ble_eq_true rfl) ⟨(Nat.le_of_ble_eq_true rfl), (Nat.le_of_ble_eq_true rfl)⟩ rfl rfl (Nat.le_of_ble_eq_true rfl) (Nat.le_of_ble_eq_true rfl) (fun r9 J9 hq9 => ?_)
    obtain ⟨rfl, rfl⟩ := hq9
    refine tz_aload_n (pc := 5) dX11_term_5 rfl rfl ?_
    refine tz_fR (pc := 6) dX11_term_6 fl_X11_29 r_0_1 ?_
    refine tz_fR (pc := 9) dX11_term_9 fl_X11_49 r_5_0 ?_
    refine tz_astore_n (pc := 12) (L2 := [_, _, _, _]) dX11_term_12 rfl (by decide) rfl ?_
    refine tz_iload_n (pc := 13) dX11_term_13 rfl rfl ?_
    by_cases hs_14 : u < 0 ∨ 9 < u
    · refine tz_tabOut (pc := 14) (tgt := 177) dX11_term_14 (by omega) hs_14 (by decide) ?_
      exact tz_throwN (pc := 177) (text := "no such question of a term") th_X11_188_192 (by decide +kernel) rfl dX11_term_177 dX11_term_180 dX11_term_181 dX11_term_183 dX11_term_186 (Nat.le_of_ble_eq_true rfl) (Nat.le_of_ble_eq_true rfl) (Nat.le_of_ble_eq_true rfl) (Nat.le_of_ble_eq_true rfl) (Nat.le_of_ble_eq_true rfl) (Nat.le_of_ble_eq_true rfl) ⟨Nat.le_refl _, Nat.le_add_right _ _⟩ ⟨rfl, rfl⟩
    · have hs9 : u = 0 ∨ u = 1 ∨ u = 2 ∨ u = 3 ∨ u = 4 ∨ u = 5 ∨ u = 6 ∨ u = 7 ∨ u = 8 ∨ u = 9 := by omega
      rcases hs9 with hc_14 | hc_14 | hc_14 | hc_14 | hc_14 | hc_14 | hc_14 | hc_14 | hc_14 | hc_14
      · refine tz_tabIn (pc := 14) (tgt := 68) 0 dX11_term_14 hc_14 (by decide) rfl (by decide) ?_
        refine tz_aload_n (pc := 68) dX11_term_68 rfl rfl ?_
        refine tz_iload_n (pc := 69) dX11_term_69 rfl rfl ?_
        refine tz_cV (pc := 70) (c_isVar hl n _ _ (by omega) (by omega)) vl_X11_219 dX11_term_70 o_6 rfl rfl (Nat.le_of_ble_eq_true rfl) ⟨(Nat.le_of_ble_eq_true rfl), (Nat.le_of_ble_eq_true rfl)⟩ rfl rfl (Nat.le_of_ble_eq_true rfl) (Nat.le_of_ble_eq_true rfl) (fun r9 J_70 hq9 => ?_)
        obtain ⟨z_70, rfl, hz_70, rfl, rfl⟩ := hq9
        by_cases hw_73 : J 7 t < 0
        · rw [show (if J 7 t < 0 then 1 else 0 : Int) = 1 from if_pos hw_73]
          refine tz_if_eqF (pc := 73) (tgt := 80) (by decide) dX11_term_73 (by decide) (by decide) ?_
          refine tz_iconst (pc := 76) dX11_term_76 ?_
          refine tz_goto (pc := 77) (tgt := 86) dX11_term_77 (by decide) ?_
          exact tz_iret (pc := 86) (z := (-1)) dX11_term_86 rfl (Nat.le_of_ble_eq_true rfl) (Nat.le_of_ble_eq_true rfl) ⟨Nat.le_refl _, Nat.le_add_right _ _⟩ ⟨_, rfl, (by decide), (by first | exact (by have hw := hI.work f1 rfl; exact ⟨⟨⟨m, hw.1⟩, by rw [hw.2.1]; omega, hw.2.2.1, hw.2.2.2⟩, cc.wk7 hI f1 rfl⟩) | exact ⟨CQ.rf hI, cc⟩)⟩
        · rw [show (if J 7 t < 0 then 1 else 0 : Int) = 0 from if_neg hw_73]
          refine tz_if_eqT (pc := 73) (tgt := 80) (by decide) dX11_term_73 (by decide) (by decide) ?_
          refine tz_aload_n (pc := 80) dX11_term_80 rfl rfl ?_
          refine tz_fR (pc := 81) dX11_term_81 fl_X11_222 r_6_1 ?_
          refine tz_iload_n (pc := 84) dX11_term_84 rfl rfl ?_
          refine tz_aL (pc := 85) (z := t) (v := (J 7 t)) dX11_term_85 a_7 rfl (by omega) rfl (fun r_85 => ?_)
          exact tz_iret (pc := 86) (z := (J 7 t)) dX11_term_86 rfl (Nat.le_of_ble_eq_true rfl) (Nat.le_of_ble_eq_true rfl) ⟨Nat.le_refl _, Nat.le_add_right _ _⟩ ⟨_, rfl, (by omega), (by first | exact (by have hw := hI.work f1 rfl; exact ⟨⟨⟨m, hw.1⟩, by rw [hw.2.1]; omega, hw.2.2.1, hw.2.2.2⟩, cc.wk7 hI f1 rfl⟩) | exact ⟨CQ.rf hI, cc⟩)⟩
      · refine tz_tabIn (pc := 14) (tgt := 87) 1 dX11_term_14 hc_14 (by decide) rfl (by decide) ?_
        refine tz_aload_n (pc := 87) dX11_term_87 rfl rfl ?_
        refine tz_iload_n (pc := 88) dX11_term_88 rfl rfl ?_
        refine tz_cV (pc := 89) (c_isVar hl n _ _ (by omega) (by omega)) vl_X11_219 dX11_term_89 o_6 rfl rfl (Nat.le_of_ble_eq_true rfl) ⟨(Nat.le_of_ble_eq_true rfl), (Nat.le_of_ble_eq_true rfl)⟩ rfl rfl (Nat.le_of_ble_eq_true rfl) (Nat.le_of_ble_eq_true rfl) (fun r9 J_89 hq9 => ?_)
        obtain ⟨z_89, rfl, hz_89, rfl, rfl⟩ := hq9
        by_cases hw_92 : J 7 t < 0
        · rw [show (if J 7 t < 0 then 1 else 0 : Int) = 1 from if_pos hw_92]
          refine tz_if_eqF (pc := 92) (tgt := 106) (by decide) dX11_term_92 (by decide) (by decide) ?_
          refine tz_aload_n (pc := 95) dX11_term_95 rfl rfl ?_
          refine tz_fR (pc := 96) dX11_term_96 fl_X11_222 r_6_1 ?_
          refine tz_iload_n (pc := 99) dX11_term_99 rfl rfl ?_
          refine tz_aL (pc := 100) (z := t) (v := (J 7 t)) dX11_term_100 a_7 rfl (by omega) rfl (fun r_100 => ?_)
          refine tz_iconst (pc := 101) dX11_term_101 ?_
          refine tz_ixor (pc := 102) (v := zxor (J 7 t) (-1)) dX11_term_102 rfl ?_
          refine tz_goto (pc := 103) (tgt := 107) dX11_term_103 (by decide) ?_
          exact tz_iret (pc := 107) (z := (zxor (J 7 t) (-1))) dX11_term_107 rfl (Nat.le_of_ble_eq_true rfl) (Nat.le_of_ble_eq_true rfl) ⟨Nat.le_refl _, Nat.le_add_right _ _⟩ ⟨_, rfl, (zxor_rg _ _), (by first | exact (by have hw := hI.work f1 rfl; exact ⟨⟨⟨m, hw.1⟩, by rw [hw.2.1]; omega, hw.2.2.1, hw.2.2.2⟩, cc.wk7 hI f1 rfl⟩) | exact ⟨CQ.rf hI, cc⟩)⟩
        · rw [show (if J 7 t < 0 then 1 else 0 : Int) = 0 from if_neg hw_92]
          refine tz_if_eqT (pc := 92) (tgt := 106) (by decide) dX11_term_92 (by decide) (by decide) ?_
          refine tz_iconst (pc := 106) dX11_term_106 ?_
          exact tz_iret (pc := 107) (z := (-1)) dX11_term_107 rfl (Nat.le_of_ble_eq_true rfl) (Nat.le_of_ble_eq_true rfl) ⟨Nat.le_refl _, Nat.le_add_right _ _⟩ ⟨_, rfl, (by decide), (by first | exact (by have hw := hI.work f1 rfl; exact ⟨⟨⟨m, hw.1⟩, by rw [hw.2.1]; omega, hw.2.2.1, hw.2.2.2⟩, cc.wk7 hI f1 rfl⟩) | exact ⟨CQ.rf hI, cc⟩)⟩
      · refine tz_tabIn (pc := 14) (tgt := 108) 2 dX11_term_14 hc_14 (by decide) rfl (by decide) ?_
        refine tz_aload_n (pc := 108) dX11_term_108 rfl rfl ?_
        refine tz_fR (pc := 109) dX11_term_109 fl_X11_225 r_6_4 ?_
        refine tz_iload_n (pc := 112) dX11_term_112 rfl rfl ?_
        refine tz_aL (pc := 113) (z := t) (v := (J 10 t)) dX11_term_113 a_10 rfl (by omega) rfl (fun r_113 => ?_)
        exact tz_iret (pc := 114) (z := (J 10 t)) dX11_term_114 rfl (Nat.le_of_ble_eq_true rfl) (Nat.le_of_ble_eq_true rfl) ⟨Nat.le_refl _, Nat.le_add_right _ _⟩ ⟨_, rfl, (by omega), (by first | exact (by have hw := hI.work f1 rfl; exact ⟨⟨⟨m, hw.1⟩, by rw [hw.2.1]; omega, hw.2.2.1, hw.2.2.2⟩, cc.wk7 hI f1 rfl⟩) | exact ⟨CQ.rf hI, cc⟩)⟩
      · refine tz_tabIn (pc := 14) (tgt := 115) 3 dX11_term_14 hc_14 (by decide) rfl (by decide) ?_
        refine tz_aload_n (pc := 115) dX11_term_115 rfl rfl ?_
        refine tz_iload_n (pc := 116) dX11_term_116 rfl rfl ?_
        refine tz_cV (pc := 117) (c_shared hl n _ _ (by omega) m hC (by omega)) vl_X11_228 dX11_term_117 o_6 rfl rfl (Nat.le_of_ble_eq_true rfl) ⟨(Nat.le_of_ble_eq_true rfl), (Nat.le_of_ble_eq_true rfl)⟩ rfl rfl (Nat.le_of_ble_eq_true rfl) (Nat.le_of_ble_eq_true rfl) (fun r9 J_117 hq9 => ?_)
        obtain ⟨z_117, rfl, hz_117, f1, -⟩ := hq9
        exact tz_iret (pc := 120) (z := z_117) dX11_term_120 rfl (Nat.le_of_ble_eq_true rfl) (Nat.le_of_ble_eq_true rfl) ⟨Nat.le_refl _, Nat.le_add_right _ _⟩ ⟨_, rfl, (by omega), (by first | exact (by have hw := hI.work f1 rfl; exact ⟨⟨⟨m, hw.1⟩, by rw [hw.2.1]; omega, hw.2.2.1, hw.2.2.2⟩, cc.wk7 hI f1 rfl⟩) | exact ⟨CQ.rf hI, cc⟩)⟩
      · refine tz_tabIn (pc := 14) (tgt := 121) 4 dX11_term_14 hc_14 (by decide) rfl (by decide) ?_
        refine tz_aload_n (pc := 121) dX11_term_121 rfl rfl ?_
        refine tz_fR (pc := 122) dX11_term_122 fl_X11_231 r_6_6 ?_
        refine tz_iload_n (pc := 125) dX11_term_125 rfl rfl ?_
        refine tz_aL (pc := 126) (z := t) (v := (J 12 t)) dX11_term_126 a_12 rfl (by omega) rfl (fun r_126 => ?_)
        exact tz_iret (pc := 127) (z := (J 12 t)) dX11_term_127 rfl (Nat.le_of_ble_eq_true rfl) (Nat.le_of_ble_eq_true rfl) ⟨Nat.le_refl _, Nat.le_add_right _ _⟩ ⟨_, rfl, (by omega), (by first | exact (by have hw := hI.work f1 rfl; exact ⟨⟨⟨m, hw.1⟩, by rw [hw.2.1]; omega, hw.2.2.1, hw.2.2.2⟩, cc.wk7 hI f1 rfl⟩) | exact ⟨CQ.rf hI, cc⟩)⟩
      · refine tz_tabIn (pc := 14) (tgt := 128) 5 dX11_term_14 hc_14 (by decide) rfl (by decide) ?_
        refine tz_aload_n (pc := 128) dX11_term_128 rfl rfl ?_
        refine tz_fR (pc := 129) dX11_term_129 fl_X11_234 r_6_5 ?_
        refine tz_iload_n (pc := 132) dX11_term_132 rfl rfl ?_
        refine tz_aL (pc := 133) (z := t) (v := (J 11 t)) dX11_term_133 a_11 rfl (by omega) rfl (fun r_133 => ?_)
        exact tz_iret (pc := 134) (z := (J 11 t)) dX11_term_134 rfl (Nat.le_of_ble_eq_true rfl) (Nat.le_of_ble_eq_true rfl) ⟨Nat.le_refl _, Nat.le_add_right _ _⟩ ⟨_, rfl, (by omega), (by first | exact (by have hw := hI.work f1 rfl; exact ⟨⟨⟨m, hw.1⟩, by rw [hw.2.1]; omega, hw.2.2.1, hw.2.2.2⟩, cc.wk7 hI f1 rfl⟩) | exact ⟨CQ.rf hI, cc⟩)⟩
      · refine tz_tabIn (pc := 14) (tgt := 135) 6 dX11_term_14 hc_14 (by decide) rfl (by decide) ?_
        refine tz_aload_n (pc := 135) dX11_term_135 rfl rfl ?_
        refine tz_fR (pc := 136) dX11_term_136 fl_X11_235 r_6_7 ?_
        refine tz_iload_n (pc := 139) dX11_term_139 rfl rfl ?_
        refine tz_aL (pc := 140) (z := t) (v := (J 13 t)) dX11_term_140 a_13 rfl (by omega) rfl (fun r_140 => ?_)
        exact tz_iret (pc := 141) (z := (J 13 t)) dX11_term_141 rfl (Nat.le_of_ble_eq_true rfl) (Nat.le_of_ble_eq_true rfl) ⟨Nat.le_refl _, Nat.le_add_right _ _⟩ ⟨_, rfl, (by omega), (by first | exact (by have hw := hI.work f1 rfl; exact ⟨⟨⟨m, hw.1⟩, by rw [hw.2.1]; omega, hw.2.2.1, hw.2.2.2⟩, cc.wk7 hI f1 rfl⟩) | exact ⟨CQ.rf hI, cc⟩)⟩
      · refine tz_tabIn (pc := 14) (tgt := 142) 7 dX11_term_14 hc_14 (by decide) rfl (by decide) ?_
        refine tz_aload_n (pc := 142) dX11_term_142 rfl rfl ?_
        refine tz_iload_n (pc := 143) dX11_term_143 rfl rfl ?_
        refine tz_cV (pc := 144) (c_users hl n _ _ (by omega) m hC hm (by omega)) vl_X11_238 dX11_term_144 o_6 rfl rfl (Nat.le_of_ble_eq_true rfl) ⟨(Nat.le_of_ble_eq_true rfl), (Nat.le_of_ble_eq_true rfl)⟩ rfl rfl (Nat.le_of_ble_eq_true rfl) (Nat.le_of_ble_eq_true rfl) (fun r9 J_144 hq9 => ?_)
        obtain ⟨z_144, rfl, hz_144, rfl⟩ := hq9
        exact tz_iret (pc := 147) (z := z_144) dX11_term_147 rfl (Nat.le_of_ble_eq_true rfl) (Nat.le_of_ble_eq_true rfl) ⟨Nat.le_refl _, Nat.le_add_right _ _⟩ ⟨_, rfl, (by omega), (by first | exact (by have hw := hI.work f1 rfl; exact ⟨⟨⟨m, hw.1⟩, by rw [hw.2.1]; omega, hw.2.2.1, hw.2.2.2⟩, cc.wk7 hI f1 rfl⟩) | exact ⟨CQ.rf hI, cc⟩)⟩
      · refine tz_tabIn (pc := 14) (tgt := 148) 8 dX11_term_14 hc_14 (by decide) rfl (by decide) ?_
        refine tz_aload_n (pc := 148) dX11_term_148 rfl rfl ?_
        refine tz_fR (pc := 149) dX11_term_149 fl_X11_29 r_0_1 ?_
        refine tz_fR (pc := 152) dX11_term_152 fl_X11_156 r_5_1 ?_
        refine tz_iload_n (pc := 155) dX11_term_155 rfl rfl ?_
        refine tz_cV (pc := 156) (c_entryOf hl n _ _ (by omega) hL.1.2.2.1) vl_X11_241 dX11_term_156 o_18 rfl rfl (Nat.le_of_ble_eq_true rfl) ⟨(Nat.le_of_ble_eq_true rfl), (Nat.le_of_ble_eq_true rfl)⟩ rfl rfl (Nat.le_of_ble_eq_true rfl) (Nat.le_of_ble_eq_true rfl) (fun r9 J_156 hq9 => ?_)
        obtain ⟨z_156, rfl, hz_156, rfl, -⟩ := hq9
        exact tz_iret (pc := 159) (z := z_156) dX11_term_159 rfl (Nat.le_of_ble_eq_true rfl) (Nat.le_of_ble_eq_true rfl) ⟨Nat.le_refl _, Nat.le_add_right _ _⟩ ⟨_, rfl, (by omega), (by first | exact (by have hw := hI.work f1 rfl; exact ⟨⟨⟨m, hw.1⟩, by rw [hw.2.1]; omega, hw.2.2.1, hw.2.2.2⟩, cc.wk7 hI f1 rfl⟩) | exact ⟨CQ.rf hI, cc⟩)⟩
      · refine tz_tabIn (pc := 14) (tgt := 160) 9 dX11_term_14 hc_14 (by decide) rfl (by decide) ?_
        refine tz_aload_n (pc := 160) dX11_term_160 rfl rfl ?_
        refine tz_fR (pc := 161) dX11_term_161 fl_X11_81 r_0_9 ?_
        refine tz_iload_n (pc := 164) dX11_term_164 rfl rfl ?_
        refine tz_cV (pc := 165) (c_isReduced hl n _ _ (by omega) m hC hL (by omega)) vl_X11_244 dX11_term_165 o_155 rfl rfl (Nat.le_of_ble_eq_true rfl) ⟨(Nat.le_of_ble_eq_true rfl), (Nat.le_of_ble_eq_true rfl)⟩ rfl rfl (Nat.le_of_ble_eq_true rfl) (Nat.le_of_ble_eq_true rfl) (fun r9 J_165 hq9 => ?_)
        obtain ⟨z_165, rfl, hz_165, hz1, f1⟩ := hq9
        refine tz_if_eq (pc := 168) (tgt := 175) dX11_term_168 (by decide) (by omega) (fun h_168 => ?_) (fun h_168 => ?_)
        · refine tz_iconst (pc := 175) dX11_term_175 ?_
          exact tz_iret (pc := 176) (z := 0) dX11_term_176 rfl (Nat.le_of_ble_eq_true rfl) (Nat.le_of_ble_eq_true rfl) ⟨Nat.le_refl _, Nat.le_add_right _ _⟩ ⟨_, rfl, (by decide), (by first | exact (by have hw := hI.work f1 rfl; exact ⟨⟨⟨m, hw.1⟩, by rw [hw.2.1]; omega, hw.2.2.1, hw.2.2.2⟩, cc.wk7 hI f1 rfl⟩) | exact ⟨CQ.rf hI, cc⟩)⟩
        · refine tz_iconst (pc := 171) dX11_term_171 ?_
          refine tz_goto (pc := 172) (tgt := 176) dX11_term_172 (by decide) ?_
          exact tz_iret (pc := 176) (z := 1) dX11_term_176 rfl (Nat.le_of_ble_eq_true rfl) (Nat.le_of_ble_eq_true rfl) ⟨Nat.le_refl _, Nat.le_add_right _ _⟩ ⟨_, rfl, (by decide), (by first | exact (by have hw := hI.work f1 rfl; exact ⟨⟨⟨m, hw.1⟩, by rw [hw.2.1]; omega, hw.2.2.1, hw.2.2.2⟩, cc.wk7 hI f1 rfl⟩) | exact ⟨CQ.rf hI, cc⟩)⟩
  · refine tz_cVX (pc := 2) (c_need0 hl n _ _ (by omega) hh_2) vl_X11_216 dX11_term_2 o_0 rfl rfl (Nat.le_of_ble_eq_true rfl) ⟨(Nat.le_of_ble_eq_true rfl), (Nat.le_of_ble_eq_true rfl)⟩ rfl rfl (Nat.le_of_ble_eq_true rfl) (Nat.le_of_ble_eq_true rfl) (fun r9 n9 J9 hn1 hn2 hq9 => hq9.elim) (fun E9 n9 J9 hn1 hn2 hx9 => ?_)
    obtain ⟨rfl, rfl⟩ := hx9
    exact tz_out rfl (Nat.le_of_ble_eq_true rfl) (Nat.le_of_ble_eq_true rfl) ⟨by omega, by omega⟩ ⟨rfl, rfl⟩

set_option maxHeartbeats 4000000 in
set_option maxRecDepth 100000 in
theorem l_argument {l : Launch} {G : tb_G} (hl : l.stackTraces = false) (n : Nat) (J : zJ) (t : Int) (i : Int) (hr_t : -2147483648 ≤ t ∧ t < 2147483648) (hr_i : -2147483648 ≤ i ∧ i < 2147483648) (m : Int) (S : zJ) (pn : Int) (RR : Int → Int → Int) (hI : CI J m) (h9 : J 145 10 < 1000000000) (cc : CAL J S pn RR) (h21 : S 164 21 = 0) : tz_Ok l G M_X11_argument 7 1 6 [.ref 0, zi t, zi i] n J (zqi (fun z J' => CQ J' J ∧ CAL J' S pn RR)) (fun E J' => E = "java/util/NoSuchElementException" ∧ J = J') := by
  refine tz_Ok.of hl (by decide +kernel) rfl (tb_c1 rfl) (Nat.le_of_ble_eq_true rfl) ?_
  show tz_At l G M_X11_argument (tb_rm 7 1 6) none (tb_ZM G 1 6 (zQ n 1 (zqi (fun z J' => CQ J' J ∧ CAL J' S pn RR))) (zX n 1 (fun E J' => E = "java/util/NoSuchElementException" ∧ J = J'))) 0 0 n J 0 [some (.ref 0), some (zi t), some (zi i)] []
  have hC := hI.1.1.1
  have hm := hI.1.1.2.1
  have hL := hI.1.1.2.2
  have hb := hC.told
  refine tz_aload_n (pc := 0) dX11_argument_0 rfl rfl ?_
  refine tz_iload_n (pc := 1) dX11_argument_1 rfl rfl ?_
  by_cases hh_2 : 0 ≤ t ∧ t < J 6 12
  · refine tz_cV (pc := 2) (c_need1 hl n _ _ (by omega) hh_2) vl_X11_216 dX11_argument_2 o_0 rfl rfl (Nat.le_of_ble_eq_true rfl) ⟨(Nat.le_of_ble_eq_true rfl), (Nat.le_of_ble_eq_true rfl)⟩ rfl rfl (Nat.le_of_ble_eq_true rfl) (Nat.le_of_ble_eq_true rfl) (fun r9 J9 hq9 => ?_)
    obtain ⟨rfl, rfl⟩ := hq9
    refine tz_iload_n (pc := 5) dX11_argument_5 rfl rfl ?_
    refine tz_if_lt (pc := 6) (tgt := 25) dX11_argument_6 (by decide) (by omega) (fun h_6 => ?_) (fun h_6 => ?_)
    · exact tz_throwN (pc := 25) (text := "no such argument") th_X11_188_192 (by decide +kernel) rfl dX11_argument_25 dX11_argument_28 dX11_argument_29 dX11_argument_31 dX11_argument_34 (Nat.le_of_ble_eq_true rfl) (Nat.le_of_ble_eq_true rfl) (Nat.le_of_ble_eq_true rfl) (Nat.le_of_ble_eq_true rfl) (Nat.le_of_ble_eq_true rfl) (Nat.le_of_ble_eq_true rfl) ⟨Nat.le_refl _, Nat.le_add_right _ _⟩ ⟨rfl, rfl⟩
    · refine tz_iload_n (pc := 9) dX11_argument_9 rfl rfl ?_
      refine tz_aload_n (pc := 10) dX11_argument_10 rfl rfl ?_
      refine tz_fR (pc := 11) dX11_argument_11 fl_X11_29 r_0_1 ?_
      refine tz_fR (pc := 14) dX11_argument_14 fl_X11_49 r_5_0 ?_
      refine tz_fR (pc := 17) dX11_argument_17 fl_X11_249 r_6_2 ?_
      refine tz_iload_n (pc := 20) dX11_argument_20 rfl rfl ?_
      have ha := hC.ar (t := t) (by omega) (by omega)
      refine tz_aL (pc := 21) (z := t) (v := (J 8 t)) dX11_argument_21 a_8 rfl (by omega) rfl (fun r_21 => ?_)
      refine tz_icmp_lt (pc := 22) (tgt := 35) dX11_argument_22 (by decide) (by omega) (by omega) (fun h_22 => ?_) (fun h_22 => ?_)
      · refine tz_aload_n (pc := 35) dX11_argument_35 rfl rfl ?_
        refine tz_fR (pc := 36) dX11_argument_36 fl_X11_29 r_0_1 ?_
        refine tz_fR (pc := 39) dX11_argument_39 fl_X11_49 r_5_0 ?_
        refine tz_iload_n (pc := 42) dX11_argument_42 rfl rfl ?_
        refine tz_iload_n (pc := 43) dX11_argument_43 rfl rfl ?_
        have ha := hC.ar (t := t) (by omega) (by omega)
        refine tz_cV (pc := 44) (c_arg hl n _ _ _ (by omega) (by omega) (by omega)) vl_X11_252 dX11_argument_44 o_6 rfl rfl (Nat.le_of_ble_eq_true rfl) ⟨(Nat.le_of_ble_eq_true rfl), (Nat.le_of_ble_eq_true rfl)⟩ rfl rfl (Nat.le_of_ble_eq_true rfl) (Nat.le_of_ble_eq_true rfl) (fun r9 J_44 hq9 => ?_)
        obtain ⟨z_44, rfl, hz_44, rfl, rfl⟩ := hq9
        exact tz_iret (pc := 47) (z := (J 9 (t * 3 + i))) dX11_argument_47 rfl (Nat.le_of_ble_eq_true rfl) (Nat.le_of_ble_eq_true rfl) ⟨Nat.le_refl _, Nat.le_add_right _ _⟩ ⟨_, rfl, (by omega), ⟨CQ.rf hI, cc⟩⟩
      · exact tz_throwN (pc := 25) (text := "no such argument") th_X11_188_192 (by decide +kernel) rfl dX11_argument_25 dX11_argument_28 dX11_argument_29 dX11_argument_31 dX11_argument_34 (Nat.le_of_ble_eq_true rfl) (Nat.le_of_ble_eq_true rfl) (Nat.le_of_ble_eq_true rfl) (Nat.le_of_ble_eq_true rfl) (Nat.le_of_ble_eq_true rfl) (Nat.le_of_ble_eq_true rfl) ⟨Nat.le_refl _, Nat.le_add_right _ _⟩ ⟨rfl, rfl⟩
  · refine tz_cVX (pc := 2) (c_need0 hl n _ _ (by omega) hh_2) vl_X11_216 dX11_argument_2 o_0 rfl rfl (Nat.le_of_ble_eq_true rfl) ⟨(Nat.le_of_ble_eq_true rfl), (Nat.le_of_ble_eq_true rfl)⟩ rfl rfl (Nat.le_of_ble_eq_true rfl) (Nat.le_of_ble_eq_true rfl) (fun r9 n9 J9 hn1 hn2 hq9 => hq9.elim) (fun E9 n9 J9 hn1 hn2 hx9 => ?_)
    obtain ⟨rfl, rfl⟩ := hx9
    exact tz_out rfl (Nat.le_of_ble_eq_true rfl) (Nat.le_of_ble_eq_true rfl) ⟨by omega, by omega⟩ ⟨rfl, rfl⟩

set_option maxHeartbeats 4000000 in
set_option maxRecDepth 100000 in
theorem l_place {l : Launch} {G : tb_G} (hl : l.stackTraces = false) (n : Nat) (J : zJ) (t : Int) (p : Int) (hr_t : -2147483648 ≤ t ∧ t < 2147483648) (hr_p : -2147483648 ≤ p ∧ p < 2147483648) (m : Int) (S : zJ) (pn : Int) (RR : Int → Int → Int) (hI : CI J m) (h9 : J 145 10 < 1000000000) (cc : CAL J S pn RR) (h21 : S 164 21 = 0) : tz_Ok l G M_X11_place 7 1 6 [.ref 0, zi t, zi p] n J (zqi (fun z J' => CQ J' J ∧ CAL J' S pn RR)) (fun E J' => E = "java/util/NoSuchElementException" ∧ J = J') := by
  refine tz_Ok.of hl (by decide +kernel) rfl (tb_c1 rfl) (Nat.le_of_ble_eq_true rfl) ?_
  show tz_At l G M_X11_place (tb_rm 7 1 6) none (tb_ZM G 1 6 (zQ n 1 (zqi (fun z J' => CQ J' J ∧ CAL J' S pn RR))) (zX n 1 (fun E J' => E = "java/util/NoSuchElementException" ∧ J = J'))) 0 0 n J 0 [some (.ref 0), some (zi t), some (zi p)] []
  have hC := hI.1.1.1
  have hm := hI.1.1.2.1
  have hL := hI.1.1.2.2
  have hb := hC.told
  refine tz_aload_n (pc := 0) dX11_place_0 rfl rfl ?_
  refine tz_iload_n (pc := 1) dX11_place_1 rfl rfl ?_
  by_cases hh_2 : 0 ≤ t ∧ t < J 6 12
  · refine tz_cV (pc := 2) (c_need1 hl n _ _ (by omega) hh_2) vl_X11_216 dX11_place_2 o_0 rfl rfl (Nat.le_of_ble_eq_true rfl) ⟨(Nat.le_of_ble_eq_true rfl), (Nat.le_of_ble_eq_true rfl)⟩ rfl rfl (Nat.le_of_ble_eq_true rfl) (Nat.le_of_ble_eq_true rfl) (fun r9 J9 hq9 => ?_)
    obtain ⟨rfl, rfl⟩ := hq9
    refine tz_aload_n (pc := 5) dX11_place_5 rfl rfl ?_
    refine tz_fR (pc := 6) dX11_place_6 fl_X11_29 r_0_1 ?_
    refine tz_fR (pc := 9) dX11_place_9 fl_X11_49 r_5_0 ?_
    refine tz_iload_n (pc := 12) dX11_place_12 rfl rfl ?_
    refine tz_iload_n (pc := 13) dX11_place_13 rfl rfl ?_
    refine tz_cV (pc := 14) (c_hasPlace hl n _ _ _ (by omega) (by omega) (by omega)) vl_X11_256 dX11_place_14 o_6 rfl rfl (Nat.le_of_ble_eq_true rfl) ⟨(Nat.le_of_ble_eq_true rfl), (Nat.le_of_ble_eq_true rfl)⟩ rfl rfl (Nat.le_of_ble_eq_true rfl) (Nat.le_of_ble_eq_true rfl) (fun r9 J_14 hq9 => ?_)
    obtain ⟨z_14, rfl, hz_14, rfl, rfl⟩ := hq9
    by_cases hw_17 : 0 ≤ p ∧ p < J 10 t
    · rw [show (if 0 ≤ p ∧ p < J 10 t then 1 else 0 : Int) = 1 from if_pos hw_17]
      refine tz_if_neT (pc := 17) (tgt := 31) (by decide) dX11_place_17 (by decide) (by decide) ?_
      refine tz_aload_n (pc := 31) dX11_place_31 rfl rfl ?_
      refine tz_fR (pc := 32) dX11_place_32 fl_X11_29 r_0_1 ?_
      refine tz_fR (pc := 35) dX11_place_35 fl_X11_49 r_5_0 ?_
      refine tz_iload_n (pc := 38) dX11_place_38 rfl rfl ?_
      refine tz_iload_n (pc := 39) dX11_place_39 rfl rfl ?_
      refine tz_cV (pc := 40) (c_inPlace hl n _ _ _ (by omega) (by omega) m hC (by omega) (by omega)) vl_X11_262 dX11_place_40 o_6 rfl rfl (Nat.le_of_ble_eq_true rfl) ⟨(Nat.le_of_ble_eq_true rfl), (Nat.le_of_ble_eq_true rfl)⟩ rfl rfl (Nat.le_of_ble_eq_true rfl) (Nat.le_of_ble_eq_true rfl) (fun r9 J_40 hq9 => ?_)
      obtain ⟨z_40, rfl, hz_40, rfl, -⟩ := hq9
      exact tz_iret (pc := 43) (z := z_40) dX11_place_43 rfl (Nat.le_of_ble_eq_true rfl) (Nat.le_of_ble_eq_true rfl) ⟨Nat.le_refl _, Nat.le_add_right _ _⟩ ⟨_, rfl, (by omega), ⟨CQ.rf hI, cc⟩⟩
    · rw [show (if 0 ≤ p ∧ p < J 10 t then 1 else 0 : Int) = 0 from if_neg hw_17]
      refine tz_if_neF (pc := 17) (tgt := 31) (by decide) dX11_place_17 (by decide) (by decide) ?_
      exact tz_throwNW (pc := 20) (text := "no such place") th_X11_188_192 (by decide +kernel) rfl dX11_place_20 dX11_place_23 dX11_place_24 dX11_place_27 dX11_place_30 (Nat.le_of_ble_eq_true rfl) (Nat.le_of_ble_eq_true rfl) (Nat.le_of_ble_eq_true rfl) (Nat.le_of_ble_eq_true rfl) (Nat.le_of_ble_eq_true rfl) (Nat.le_of_ble_eq_true rfl) ⟨Nat.le_refl _, Nat.le_add_right _ _⟩ ⟨rfl, rfl⟩
  · refine tz_cVX (pc := 2) (c_need0 hl n _ _ (by omega) hh_2) vl_X11_216 dX11_place_2 o_0 rfl rfl (Nat.le_of_ble_eq_true rfl) ⟨(Nat.le_of_ble_eq_true rfl), (Nat.le_of_ble_eq_true rfl)⟩ rfl rfl (Nat.le_of_ble_eq_true rfl) (Nat.le_of_ble_eq_true rfl) (fun r9 n9 J9 hn1 hn2 hq9 => hq9.elim) (fun E9 n9 J9 hn1 hn2 hx9 => ?_)
    obtain ⟨rfl, rfl⟩ := hx9
    exact tz_out rfl (Nat.le_of_ble_eq_true rfl) (Nat.le_of_ble_eq_true rfl) ⟨by omega, by omega⟩ ⟨rfl, rfl⟩

set_option maxHeartbeats 4000000 in
set_option maxRecDepth 100000 in
theorem l_order {l : Launch} {G : tb_G} (hl : l.stackTraces = false) (n : Nat) (J : zJ) (s : Int) (t : Int) (hr_s : -2147483648 ≤ s ∧ s < 2147483648) (hr_t : -2147483648 ≤ t ∧ t < 2147483648) (m : Int) (S : zJ) (pn : Int) (RR : Int → Int → Int) (hI : CI J m) (h9 : J 145 10 < 1000000000) (cc : CAL J S pn RR) (h21 : S 164 21 = 0) : tz_Ok l G M_X11_order 10 1 6 [.ref 0, zi s, zi t] n J (zqi (fun z J' => CQ J' J ∧ CAL J' S pn RR)) (fun E J' => E = "java/util/NoSuchElementException" ∧ J = J') := by
  refine tz_Ok.of hl (by decide +kernel) rfl (tb_c1 rfl) (Nat.le_of_ble_eq_true rfl) ?_
  show tz_At l G M_X11_order (tb_rm 10 1 6) none (tb_ZM G 1 6 (zQ n 1 (zqi (fun z J' => CQ J' J ∧ CAL J' S pn RR))) (zX n 1 (fun E J' => E = "java/util/NoSuchElementException" ∧ J = J'))) 0 0 n J 0 [some (.ref 0), some (zi s), some (zi t)] []
  have hC := hI.1.1.1
  have hm := hI.1.1.2.1
  have hL := hI.1.1.2.2
  have hb := hC.told
  refine tz_aload_n (pc := 0) dX11_order_0 rfl rfl ?_
  refine tz_iload_n (pc := 1) dX11_order_1 rfl rfl ?_
  by_cases hh_2 : 0 ≤ s ∧ s < J 6 12
  · refine tz_cV (pc := 2) (c_need1 hl n _ _ (by omega) hh_2) vl_X11_216 dX11_order_2 o_0 rfl rfl (Nat.le_of_ble_eq_true rfl) ⟨(Nat.le_of_ble_eq_true rfl), (Nat.le_of_ble_eq_true rfl)⟩ rfl rfl (Nat.le_of_ble_eq_true rfl) (Nat.le_of_ble_eq_true rfl) (fun r9 J9 hq9 => ?_)
    obtain ⟨rfl, rfl⟩ := hq9
    refine tz_aload_n (pc := 5) dX11_order_5 rfl rfl ?_
    refine tz_iload_n (pc := 6) dX11_order_6 rfl rfl ?_
    by_cases hh_7 : 0 ≤ t ∧ t < J 6 12
    · refine tz_cV (pc := 7) (c_need1 hl n _ _ (by omega) hh_7) vl_X11_216 dX11_order_7 o_0 rfl rfl (Nat.le_of_ble_eq_true rfl) ⟨(Nat.le_of_ble_eq_true rfl), (Nat.le_of_ble_eq_true rfl)⟩ rfl rfl (Nat.le_of_ble_eq_true rfl) (Nat.le_of_ble_eq_true rfl) (fun r9 J9 hq9 => ?_)
      obtain ⟨rfl, rfl⟩ := hq9
      refine tz_aload_n (pc := 10) dX11_order_10 rfl rfl ?_
      refine tz_fR (pc := 11) dX11_order_11 fl_X11_81 r_0_9 ?_
      refine tz_iload_n (pc := 14) dX11_order_14 rfl rfl ?_
      refine tz_iload_n (pc := 15) dX11_order_15 rfl rfl ?_
      refine tz_cV (pc := 16) (c_compared hl n _ _ _ (by omega) (by omega) m hC (by omega) (by omega)) vl_X11_265 dX11_order_16 o_155 rfl rfl (Nat.le_of_ble_eq_true rfl) ⟨(Nat.le_of_ble_eq_true rfl), (Nat.le_of_ble_eq_true rfl)⟩ rfl rfl (Nat.le_of_ble_eq_true rfl) (Nat.le_of_ble_eq_true rfl) (fun r9 J_16 hq9 => ?_)
      obtain ⟨z_16, rfl, hz_16, f1, k1⟩ := hq9
      exact tz_iret (pc := 19) (z := z_16) dX11_order_19 rfl (Nat.le_of_ble_eq_true rfl) (Nat.le_of_ble_eq_true rfl) ⟨Nat.le_refl _, Nat.le_add_right _ _⟩ ⟨_, rfl, (by omega), (by have hw := hI.work6 f1 rfl (k1.trans hI.1.2.2.1.2); exact ⟨⟨⟨m, hw.1⟩, by rw [hw.2.1]; omega, hw.2.2.1, hw.2.2.2⟩, cc.wk7 hI f1 rfl⟩)⟩
    · refine tz_cVX (pc := 7) (c_need0 hl n _ _ (by omega) hh_7) vl_X11_216 dX11_order_7 o_0 rfl rfl (Nat.le_of_ble_eq_true rfl) ⟨(Nat.le_of_ble_eq_true rfl), (Nat.le_of_ble_eq_true rfl)⟩ rfl rfl (Nat.le_of_ble_eq_true rfl) (Nat.le_of_ble_eq_true rfl) (fun r9 n9 J9 hn1 hn2 hq9 => hq9.elim) (fun E9 n9 J9 hn1 hn2 hx9 => ?_)
      obtain ⟨rfl, rfl⟩ := hx9
      exact tz_out rfl (Nat.le_of_ble_eq_true rfl) (Nat.le_of_ble_eq_true rfl) ⟨by omega, by omega⟩ ⟨rfl, rfl⟩
  · refine tz_cVX (pc := 2) (c_need0 hl n _ _ (by omega) hh_2) vl_X11_216 dX11_order_2 o_0 rfl rfl (Nat.le_of_ble_eq_true rfl) ⟨(Nat.le_of_ble_eq_true rfl), (Nat.le_of_ble_eq_true rfl)⟩ rfl rfl (Nat.le_of_ble_eq_true rfl) (Nat.le_of_ble_eq_true rfl) (fun r9 n9 J9 hn1 hn2 hq9 => hq9.elim) (fun E9 n9 J9 hn1 hn2 hx9 => ?_)
    obtain ⟨rfl, rfl⟩ := hx9
    exact tz_out rfl (Nat.le_of_ble_eq_true rfl) (Nat.le_of_ble_eq_true rfl) ⟨by omega, by omega⟩ ⟨rfl, rfl⟩

set_option maxHeartbeats 4000000 in
set_option maxRecDepth 100000 in
theorem l_find {l : Launch} {G : tb_G} (hl : l.stackTraces = false) (n : Nat) (J : zJ) (t : Int) (u : Int) (hr_t : -2147483648 ≤ t ∧ t < 2147483648) (hr_u : -2147483648 ≤ u ∧ u < 2147483648) (m : Int) (S : zJ) (pn : Int) (RR : Int → Int → Int) (hI : CI J m) (h9 : J 145 10 < 1000000000) (cc : CAL J S pn RR) (h21 : S 164 21 = 0) : tz_Ok l G M_X11_find 10 1 6 [.ref 0, zi t, zi u] n J (zqi (fun z J' => CQ J' J ∧ CAL J' S pn RR)) (fun E J' => E = "java/util/NoSuchElementException" ∧ J = J') := by
  refine tz_Ok.of hl (by decide +kernel) rfl (tb_c1 rfl) (Nat.le_of_ble_eq_true rfl) ?_
  show tz_At l G M_X11_find (tb_rm 10 1 6) none (tb_ZM G 1 6 (zQ n 1 (zqi (fun z J' => CQ J' J ∧ CAL J' S pn RR))) (zX n 1 (fun E J' => E = "java/util/NoSuchElementException" ∧ J = J'))) 0 0 n J 0 [some (.ref 0), some (zi t), some (zi u)] []
  have hC := hI.1.1.1
  have hm := hI.1.1.2.1
  have hL := hI.1.1.2.2
  have hb := hC.told
  refine tz_aload_n (pc := 0) dX11_find_0 rfl rfl ?_
  refine tz_iload_n (pc := 1) dX11_find_1 rfl rfl ?_
  by_cases hh_2 : 0 ≤ t ∧ t < J 6 12
  · refine tz_cV (pc := 2) (c_need1 hl n _ _ (by omega) hh_2) vl_X11_216 dX11_find_2 o_0 rfl rfl (Nat.le_of_ble_eq_true rfl) ⟨(Nat.le_of_ble_eq_true rfl), (Nat.le_of_ble_eq_true rfl)⟩ rfl rfl (Nat.le_of_ble_eq_true rfl) (Nat.le_of_ble_eq_true rfl) (fun r9 J9 hq9 => ?_)
    obtain ⟨rfl, rfl⟩ := hq9
    refine tz_iload_n (pc := 5) dX11_find_5 rfl rfl ?_
    refine tz_if_lt (pc := 6) (tgt := 14) dX11_find_6 (by decide) (by omega) (fun h_6 => ?_) (fun h_6 => ?_)
    · exact tz_throwNW (pc := 14) (text := "no such question of the index") th_X11_188_192 (by decide +kernel) rfl dX11_find_14 dX11_find_17 dX11_find_18 dX11_find_21 dX11_find_24 (Nat.le_of_ble_eq_true rfl) (Nat.le_of_ble_eq_true rfl) (Nat.le_of_ble_eq_true rfl) (Nat.le_of_ble_eq_true rfl) (Nat.le_of_ble_eq_true rfl) (Nat.le_of_ble_eq_true rfl) ⟨Nat.le_refl _, Nat.le_add_right _ _⟩ ⟨rfl, rfl⟩
    · refine tz_iload_n (pc := 9) dX11_find_9 rfl rfl ?_
      refine tz_iconst (pc := 10) dX11_find_10 ?_
      refine tz_icmp_le (pc := 11) (tgt := 25) dX11_find_11 (by decide) (by omega) (by decide) (fun h_11 => ?_) (fun h_11 => ?_)
      · refine tz_aload_n (pc := 25) dX11_find_25 rfl rfl ?_
        refine tz_fR (pc := 26) dX11_find_26 fl_X11_81 r_0_9 ?_
        refine tz_iload_n (pc := 29) dX11_find_29 rfl rfl ?_
        refine tz_iload_n (pc := 30) dX11_find_30 rfl rfl ?_
        refine tz_cV (pc := 31) (c_found hl n _ _ _ (by omega) (by omega) m hC hL (by omega) hI.1.2.1 (by omega)) vl_X11_270 dX11_find_31 o_155 rfl rfl (Nat.le_of_ble_eq_true rfl) ⟨(Nat.le_of_ble_eq_true rfl), (Nat.le_of_ble_eq_true rfl)⟩ rfl rfl (Nat.le_of_ble_eq_true rfl) (Nat.le_of_ble_eq_true rfl) (fun r9 J_31 hq9 => ?_)
        obtain ⟨z_31, rfl, hz_31, u1, u2, u3⟩ := hq9
        exact tz_iret (pc := 34) (z := z_31) dX11_find_34 rfl (Nat.le_of_ble_eq_true rfl) (Nat.le_of_ble_eq_true rfl) ⟨Nat.le_refl _, Nat.le_add_right _ _⟩ ⟨_, rfl, (by omega), (by have hw := hI.uni u3 rfl u1; exact ⟨⟨⟨m, hw.1⟩, by omega, hw.2.1, hw.2.2⟩, cc.wk7 hI u3 rfl⟩)⟩
      · exact tz_throwNW (pc := 14) (text := "no such question of the index") th_X11_188_192 (by decide +kernel) rfl dX11_find_14 dX11_find_17 dX11_find_18 dX11_find_21 dX11_find_24 (Nat.le_of_ble_eq_true rfl) (Nat.le_of_ble_eq_true rfl) (Nat.le_of_ble_eq_true rfl) (Nat.le_of_ble_eq_true rfl) (Nat.le_of_ble_eq_true rfl) (Nat.le_of_ble_eq_true rfl) ⟨Nat.le_refl _, Nat.le_add_right _ _⟩ ⟨rfl, rfl⟩
  · refine tz_cVX (pc := 2) (c_need0 hl n _ _ (by omega) hh_2) vl_X11_216 dX11_find_2 o_0 rfl rfl (Nat.le_of_ble_eq_true rfl) ⟨(Nat.le_of_ble_eq_true rfl), (Nat.le_of_ble_eq_true rfl)⟩ rfl rfl (Nat.le_of_ble_eq_true rfl) (Nat.le_of_ble_eq_true rfl) (fun r9 n9 J9 hn1 hn2 hq9 => hq9.elim) (fun E9 n9 J9 hn1 hn2 hx9 => ?_)
    obtain ⟨rfl, rfl⟩ := hx9
    exact tz_out rfl (Nat.le_of_ble_eq_true rfl) (Nat.le_of_ble_eq_true rfl) ⟨by omega, by omega⟩ ⟨rfl, rfl⟩

set_option maxHeartbeats 4000000 in
set_option maxRecDepth 100000 in
theorem l_rule {l : Launch} {G : tb_G} (hl : l.stackTraces = false) (n : Nat) (J : zJ) (i : Int) (u : Int) (hr_i : -2147483648 ≤ i ∧ i < 2147483648) (hr_u : -2147483648 ≤ u ∧ u < 2147483648) (m : Int) (S : zJ) (pn : Int) (RR : Int → Int → Int) (hI : CI J m) (h9 : J 145 10 < 1000000000) (cc : CAL J S pn RR) (h21 : S 164 21 = 0) : tz_Ok l G M_X11_rule 6 1 6 [.ref 0, zi i, zi u] n J (zqi (fun z J' => CQ J' J ∧ CAL J' S pn RR)) (fun E J' => E = "java/util/NoSuchElementException" ∧ J = J') := by
  refine tz_Ok.of hl (by decide +kernel) rfl (tb_c1 rfl) (Nat.le_of_ble_eq_true rfl) ?_
  show tz_At l G M_X11_rule (tb_rm 6 1 6) none (tb_ZM G 1 6 (zQ n 1 (zqi (fun z J' => CQ J' J ∧ CAL J' S pn RR))) (zX n 1 (fun E J' => E = "java/util/NoSuchElementException" ∧ J = J'))) 0 0 n J 0 [some (.ref 0), some (zi i), some (zi u), none] []
  have hC := hI.1.1.1
  have hm := hI.1.1.2.1
  have hL := hI.1.1.2.2
  have hb := hC.told
  have h4 := hL.1.2.1
  refine tz_aload_n (pc := 0) dX11_rule_0 rfl rfl ?_
  refine tz_fR (pc := 1) dX11_rule_1 fl_X11_29 r_0_1 ?_
  refine tz_fR (pc := 4) dX11_rule_4 fl_X11_156 r_5_1 ?_
  refine tz_fR (pc := 7) dX11_rule_7 fl_X11_167 r_18_0 ?_
  refine tz_astore_n (pc := 10) (L2 := [_, _, _, _]) dX11_rule_10 rfl (by decide) rfl ?_
  refine tz_iload_n (pc := 11) dX11_rule_11 rfl rfl ?_
  refine tz_if_lt (pc := 12) (tgt := 31) dX11_rule_12 (by decide) (by omega) (fun h_12 => ?_) (fun h_12 => ?_)
  · exact tz_throwNW (pc := 31) (text := "no such rule or side") th_X11_188_192 (by decide +kernel) rfl dX11_rule_31 dX11_rule_34 dX11_rule_35 dX11_rule_38 dX11_rule_41 (Nat.le_of_ble_eq_true rfl) (Nat.le_of_ble_eq_true rfl) (Nat.le_of_ble_eq_true rfl) (Nat.le_of_ble_eq_true rfl) (Nat.le_of_ble_eq_true rfl) (Nat.le_of_ble_eq_true rfl) ⟨Nat.le_refl _, Nat.le_add_right _ _⟩ ⟨rfl, rfl⟩
  · refine tz_iload_n (pc := 15) dX11_rule_15 rfl rfl ?_
    refine tz_aload_n (pc := 16) dX11_rule_16 rfl rfl ?_
    refine tz_iconst (pc := 17) dX11_rule_17 ?_
    refine tz_aL (pc := 18) (z := 4) (v := (J 19 4)) dX11_rule_18 a_19 rfl (by decide) rfl (fun r_18 => ?_)
    refine tz_icmp_ge (pc := 19) (tgt := 31) dX11_rule_19 (by decide) (by omega) (by omega) (fun h_19 => ?_) (fun h_19 => ?_)
    · exact tz_throwNW (pc := 31) (text := "no such rule or side") th_X11_188_192 (by decide +kernel) rfl dX11_rule_31 dX11_rule_34 dX11_rule_35 dX11_rule_38 dX11_rule_41 (Nat.le_of_ble_eq_true rfl) (Nat.le_of_ble_eq_true rfl) (Nat.le_of_ble_eq_true rfl) (Nat.le_of_ble_eq_true rfl) (Nat.le_of_ble_eq_true rfl) (Nat.le_of_ble_eq_true rfl) ⟨Nat.le_refl _, Nat.le_add_right _ _⟩ ⟨rfl, rfl⟩
    · refine tz_iload_n (pc := 22) dX11_rule_22 rfl rfl ?_
      refine tz_if_lt (pc := 23) (tgt := 31) dX11_rule_23 (by decide) (by omega) (fun h_23 => ?_) (fun h_23 => ?_)
      · exact tz_throwNW (pc := 31) (text := "no such rule or side") th_X11_188_192 (by decide +kernel) rfl dX11_rule_31 dX11_rule_34 dX11_rule_35 dX11_rule_38 dX11_rule_41 (Nat.le_of_ble_eq_true rfl) (Nat.le_of_ble_eq_true rfl) (Nat.le_of_ble_eq_true rfl) (Nat.le_of_ble_eq_true rfl) (Nat.le_of_ble_eq_true rfl) (Nat.le_of_ble_eq_true rfl) ⟨Nat.le_refl _, Nat.le_add_right _ _⟩ ⟨rfl, rfl⟩
      · refine tz_iload_n (pc := 26) dX11_rule_26 rfl rfl ?_
        refine tz_iconst (pc := 27) dX11_rule_27 ?_
        refine tz_icmp_le (pc := 28) (tgt := 42) dX11_rule_28 (by decide) (by omega) (by decide) (fun h_28 => ?_) (fun h_28 => ?_)
        · refine tz_iload_n (pc := 42) dX11_rule_42 rfl rfl ?_
          refine tz_if_ne (pc := 43) (tgt := 55) dX11_rule_43 (by decide) (by omega) (fun h_43 => ?_) (fun h_43 => ?_)
          · refine tz_aload_n (pc := 55) dX11_rule_55 rfl rfl ?_
            refine tz_bipush (pc := 56) dX11_rule_56 (by decide) ?_
            refine tz_iload_n (pc := 58) dX11_rule_58 rfl rfl ?_
            refine tz_iadd (pc := 59) (v := 23 + i) dX11_rule_59 rfl ?_
            refine tz_aL (pc := 60) (z := (23 + i)) (v := (J 19 (23 + i))) dX11_rule_60 a_19 rfl (by omega) rfl (fun r_60 => ?_)
            exact tz_iret (pc := 61) (z := (J 19 (23 + i))) dX11_rule_61 rfl (Nat.le_of_ble_eq_true rfl) (Nat.le_of_ble_eq_true rfl) ⟨Nat.le_refl _, Nat.le_add_right _ _⟩ ⟨_, rfl, (by omega), ⟨CQ.rf hI, cc⟩⟩
          · refine tz_aload_n (pc := 46) dX11_rule_46 rfl rfl ?_
            refine tz_bipush (pc := 47) dX11_rule_47 (by decide) ?_
            refine tz_iload_n (pc := 49) dX11_rule_49 rfl rfl ?_
            refine tz_iadd (pc := 50) (v := 15 + i) dX11_rule_50 rfl ?_
            refine tz_aL (pc := 51) (z := (15 + i)) (v := (J 19 (15 + i))) dX11_rule_51 a_19 rfl (by omega) rfl (fun r_51 => ?_)
            refine tz_goto (pc := 52) (tgt := 61) dX11_rule_52 (by decide) ?_
            exact tz_iret (pc := 61) (z := (J 19 (15 + i))) dX11_rule_61 rfl (Nat.le_of_ble_eq_true rfl) (Nat.le_of_ble_eq_true rfl) ⟨Nat.le_refl _, Nat.le_add_right _ _⟩ ⟨_, rfl, (by omega), ⟨CQ.rf hI, cc⟩⟩
        · exact tz_throwNW (pc := 31) (text := "no such rule or side") th_X11_188_192 (by decide +kernel) rfl dX11_rule_31 dX11_rule_34 dX11_rule_35 dX11_rule_38 dX11_rule_41 (Nat.le_of_ble_eq_true rfl) (Nat.le_of_ble_eq_true rfl) (Nat.le_of_ble_eq_true rfl) (Nat.le_of_ble_eq_true rfl) (Nat.le_of_ble_eq_true rfl) (Nat.le_of_ble_eq_true rfl) ⟨Nat.le_refl _, Nat.le_add_right _ _⟩ ⟨rfl, rfl⟩

set_option maxHeartbeats 4000000 in
set_option maxRecDepth 100000 in
theorem l_entry {l : Launch} {G : tb_G} (hl : l.stackTraces = false) (n : Nat) (J : zJ) (i : Int) (hr_i : -2147483648 ≤ i ∧ i < 2147483648) (m : Int) (S : zJ) (pn : Int) (RR : Int → Int → Int) (hI : CI J m) (h9 : J 145 10 < 1000000000) (cc : CAL J S pn RR) (h21 : S 164 21 = 0) : tz_Ok l G M_X11_entry 6 1 6 [.ref 0, zi i] n J (zqi (fun z J' => CQ J' J ∧ CAL J' S pn RR)) (fun E J' => E = "java/util/NoSuchElementException" ∧ J = J') := by
  refine tz_Ok.of hl (by decide +kernel) rfl (tb_c1 rfl) (Nat.le_of_ble_eq_true rfl) ?_
  show tz_At l G M_X11_entry (tb_rm 6 1 6) none (tb_ZM G 1 6 (zQ n 1 (zqi (fun z J' => CQ J' J ∧ CAL J' S pn RR))) (zX n 1 (fun E J' => E = "java/util/NoSuchElementException" ∧ J = J'))) 0 0 n J 0 [some (.ref 0), some (zi i), none] []
  have hC := hI.1.1.1
  have hm := hI.1.1.2.1
  have hL := hI.1.1.2.2
  have hb := hC.told
  have h5 := hL.1.2.2.1
  refine tz_aload_n (pc := 0) dX11_entry_0 rfl rfl ?_
  refine tz_fR (pc := 1) dX11_entry_1 fl_X11_29 r_0_1 ?_
  refine tz_fR (pc := 4) dX11_entry_4 fl_X11_156 r_5_1 ?_
  refine tz_fR (pc := 7) dX11_entry_7 fl_X11_167 r_18_0 ?_
  refine tz_astore_n (pc := 10) (L2 := [_, _, _]) dX11_entry_10 rfl (by decide) rfl ?_
  refine tz_iload_n (pc := 11) dX11_entry_11 rfl rfl ?_
  refine tz_if_lt (pc := 12) (tgt := 22) dX11_entry_12 (by decide) (by omega) (fun h_12 => ?_) (fun h_12 => ?_)
  · exact tz_throwNW (pc := 22) (text := "no such entry") th_X11_188_192 (by decide +kernel) rfl dX11_entry_22 dX11_entry_25 dX11_entry_26 dX11_entry_29 dX11_entry_32 (Nat.le_of_ble_eq_true rfl) (Nat.le_of_ble_eq_true rfl) (Nat.le_of_ble_eq_true rfl) (Nat.le_of_ble_eq_true rfl) (Nat.le_of_ble_eq_true rfl) (Nat.le_of_ble_eq_true rfl) ⟨Nat.le_refl _, Nat.le_add_right _ _⟩ ⟨rfl, rfl⟩
  · refine tz_iload_n (pc := 15) dX11_entry_15 rfl rfl ?_
    refine tz_aload_n (pc := 16) dX11_entry_16 rfl rfl ?_
    refine tz_iconst (pc := 17) dX11_entry_17 ?_
    refine tz_aL (pc := 18) (z := 5) (v := (J 19 5)) dX11_entry_18 a_19 rfl (by decide) rfl (fun r_18 => ?_)
    refine tz_icmp_lt (pc := 19) (tgt := 33) dX11_entry_19 (by decide) (by omega) (by omega) (fun h_19 => ?_) (fun h_19 => ?_)
    · refine tz_aload_n (pc := 33) dX11_entry_33 rfl rfl ?_
      refine tz_bipush (pc := 34) dX11_entry_34 (by decide) ?_
      refine tz_iload_n (pc := 36) dX11_entry_36 rfl rfl ?_
      refine tz_iadd (pc := 37) (v := 31 + i) dX11_entry_37 rfl ?_
      refine tz_aL (pc := 38) (z := (31 + i)) (v := (J 19 (31 + i))) dX11_entry_38 a_19 rfl (by omega) rfl (fun r_38 => ?_)
      exact tz_iret (pc := 39) (z := (J 19 (31 + i))) dX11_entry_39 rfl (Nat.le_of_ble_eq_true rfl) (Nat.le_of_ble_eq_true rfl) ⟨Nat.le_refl _, Nat.le_add_right _ _⟩ ⟨_, rfl, (by omega), ⟨CQ.rf hI, cc⟩⟩
    · exact tz_throwNW (pc := 22) (text := "no such entry") th_X11_188_192 (by decide +kernel) rfl dX11_entry_22 dX11_entry_25 dX11_entry_26 dX11_entry_29 dX11_entry_32 (Nat.le_of_ble_eq_true rfl) (Nat.le_of_ble_eq_true rfl) (Nat.le_of_ble_eq_true rfl) (Nat.le_of_ble_eq_true rfl) (Nat.le_of_ble_eq_true rfl) (Nat.le_of_ble_eq_true rfl) ⟨Nat.le_refl _, Nat.le_add_right _ _⟩ ⟨rfl, rfl⟩

set_option maxHeartbeats 4000000 in
set_option maxRecDepth 100000 in
theorem l_memo {l : Launch} {G : tb_G} (hl : l.stackTraces = false) (n : Nat) (J : zJ) (i : Int) (u : Int) (hr_i : -2147483648 ≤ i ∧ i < 2147483648) (hr_u : -2147483648 ≤ u ∧ u < 2147483648) (m : Int) (S : zJ) (pn : Int) (RR : Int → Int → Int) (hI : CI J m) (h9 : J 145 10 < 1000000000) (cc : CAL J S pn RR) (h21 : S 164 21 = 0) : tz_Ok l G M_X11_memo 6 1 6 [.ref 0, zi i, zi u] n J (zqi (fun z J' => CQ J' J ∧ CAL J' S pn RR)) (fun E J' => E = "java/util/NoSuchElementException" ∧ J = J') := by
  refine tz_Ok.of hl (by decide +kernel) rfl (tb_c1 rfl) (Nat.le_of_ble_eq_true rfl) ?_
  show tz_At l G M_X11_memo (tb_rm 6 1 6) none (tb_ZM G 1 6 (zQ n 1 (zqi (fun z J' => CQ J' J ∧ CAL J' S pn RR))) (zX n 1 (fun E J' => E = "java/util/NoSuchElementException" ∧ J = J'))) 0 0 n J 0 [some (.ref 0), some (zi i), some (zi u), none] []
  have hC := hI.1.1.1
  have hm := hI.1.1.2.1
  have hL := hI.1.1.2.2
  have hb := hC.told
  have h6 := hL.1.2.2.2
  refine tz_aload_n (pc := 0) dX11_memo_0 rfl rfl ?_
  refine tz_fR (pc := 1) dX11_memo_1 fl_X11_29 r_0_1 ?_
  refine tz_fR (pc := 4) dX11_memo_4 fl_X11_156 r_5_1 ?_
  refine tz_fR (pc := 7) dX11_memo_7 fl_X11_167 r_18_0 ?_
  refine tz_astore_n (pc := 10) (L2 := [_, _, _, _]) dX11_memo_10 rfl (by decide) rfl ?_
  refine tz_iload_n (pc := 11) dX11_memo_11 rfl rfl ?_
  refine tz_if_lt (pc := 12) (tgt := 32) dX11_memo_12 (by decide) (by omega) (fun h_12 => ?_) (fun h_12 => ?_)
  · exact tz_throwNW (pc := 32) (text := "no such memo or side") th_X11_188_192 (by decide +kernel) rfl dX11_memo_32 dX11_memo_35 dX11_memo_36 dX11_memo_39 dX11_memo_42 (Nat.le_of_ble_eq_true rfl) (Nat.le_of_ble_eq_true rfl) (Nat.le_of_ble_eq_true rfl) (Nat.le_of_ble_eq_true rfl) (Nat.le_of_ble_eq_true rfl) (Nat.le_of_ble_eq_true rfl) ⟨Nat.le_refl _, Nat.le_add_right _ _⟩ ⟨rfl, rfl⟩
  · refine tz_iload_n (pc := 15) dX11_memo_15 rfl rfl ?_
    refine tz_aload_n (pc := 16) dX11_memo_16 rfl rfl ?_
    refine tz_bipush (pc := 17) dX11_memo_17 (by decide) ?_
    refine tz_aL (pc := 19) (z := 6) (v := (J 19 6)) dX11_memo_19 a_19 rfl (by decide) rfl (fun r_19 => ?_)
    refine tz_icmp_ge (pc := 20) (tgt := 32) dX11_memo_20 (by decide) (by omega) (by omega) (fun h_20 => ?_) (fun h_20 => ?_)
    · exact tz_throwNW (pc := 32) (text := "no such memo or side") th_X11_188_192 (by decide +kernel) rfl dX11_memo_32 dX11_memo_35 dX11_memo_36 dX11_memo_39 dX11_memo_42 (Nat.le_of_ble_eq_true rfl) (Nat.le_of_ble_eq_true rfl) (Nat.le_of_ble_eq_true rfl) (Nat.le_of_ble_eq_true rfl) (Nat.le_of_ble_eq_true rfl) (Nat.le_of_ble_eq_true rfl) ⟨Nat.le_refl _, Nat.le_add_right _ _⟩ ⟨rfl, rfl⟩
    · refine tz_iload_n (pc := 23) dX11_memo_23 rfl rfl ?_
      refine tz_if_lt (pc := 24) (tgt := 32) dX11_memo_24 (by decide) (by omega) (fun h_24 => ?_) (fun h_24 => ?_)
      · exact tz_throwNW (pc := 32) (text := "no such memo or side") th_X11_188_192 (by decide +kernel) rfl dX11_memo_32 dX11_memo_35 dX11_memo_36 dX11_memo_39 dX11_memo_42 (Nat.le_of_ble_eq_true rfl) (Nat.le_of_ble_eq_true rfl) (Nat.le_of_ble_eq_true rfl) (Nat.le_of_ble_eq_true rfl) (Nat.le_of_ble_eq_true rfl) (Nat.le_of_ble_eq_true rfl) ⟨Nat.le_refl _, Nat.le_add_right _ _⟩ ⟨rfl, rfl⟩
      · refine tz_iload_n (pc := 27) dX11_memo_27 rfl rfl ?_
        refine tz_iconst (pc := 28) dX11_memo_28 ?_
        refine tz_icmp_le (pc := 29) (tgt := 43) dX11_memo_29 (by decide) (by omega) (by decide) (fun h_29 => ?_) (fun h_29 => ?_)
        · refine tz_iload_n (pc := 43) dX11_memo_43 rfl rfl ?_
          refine tz_if_ne (pc := 44) (tgt := 56) dX11_memo_44 (by decide) (by omega) (fun h_44 => ?_) (fun h_44 => ?_)
          · refine tz_aload_n (pc := 56) dX11_memo_56 rfl rfl ?_
            refine tz_bipush (pc := 57) dX11_memo_57 (by decide) ?_
            refine tz_iload_n (pc := 59) dX11_memo_59 rfl rfl ?_
            refine tz_iadd (pc := 60) (v := 52 + i) dX11_memo_60 rfl ?_
            refine tz_aL (pc := 61) (z := (52 + i)) (v := (J 19 (52 + i))) dX11_memo_61 a_19 rfl (by omega) rfl (fun r_61 => ?_)
            exact tz_iret (pc := 62) (z := (J 19 (52 + i))) dX11_memo_62 rfl (Nat.le_of_ble_eq_true rfl) (Nat.le_of_ble_eq_true rfl) ⟨Nat.le_refl _, Nat.le_add_right _ _⟩ ⟨_, rfl, (by omega), ⟨CQ.rf hI, cc⟩⟩
          · refine tz_aload_n (pc := 47) dX11_memo_47 rfl rfl ?_
            refine tz_bipush (pc := 48) dX11_memo_48 (by decide) ?_
            refine tz_iload_n (pc := 50) dX11_memo_50 rfl rfl ?_
            refine tz_iadd (pc := 51) (v := 43 + i) dX11_memo_51 rfl ?_
            refine tz_aL (pc := 52) (z := (43 + i)) (v := (J 19 (43 + i))) dX11_memo_52 a_19 rfl (by omega) rfl (fun r_52 => ?_)
            refine tz_goto (pc := 53) (tgt := 62) dX11_memo_53 (by decide) ?_
            exact tz_iret (pc := 62) (z := (J 19 (43 + i))) dX11_memo_62 rfl (Nat.le_of_ble_eq_true rfl) (Nat.le_of_ble_eq_true rfl) ⟨Nat.le_refl _, Nat.le_add_right _ _⟩ ⟨_, rfl, (by omega), ⟨CQ.rf hI, cc⟩⟩
        · exact tz_throwNW (pc := 32) (text := "no such memo or side") th_X11_188_192 (by decide +kernel) rfl dX11_memo_32 dX11_memo_35 dX11_memo_36 dX11_memo_39 dX11_memo_42 (Nat.le_of_ble_eq_true rfl) (Nat.le_of_ble_eq_true rfl) (Nat.le_of_ble_eq_true rfl) (Nat.le_of_ble_eq_true rfl) (Nat.le_of_ble_eq_true rfl) (Nat.le_of_ble_eq_true rfl) ⟨Nat.le_refl _, Nat.le_add_right _ _⟩ ⟨rfl, rfl⟩

set_option maxHeartbeats 4000000 in
set_option maxRecDepth 100000 in
theorem l_bound {l : Launch} {G : tb_G} (hl : l.stackTraces = false) (n : Nat) (J : zJ) (x : Int) (hr_x : -2147483648 ≤ x ∧ x < 2147483648) (m : Int) (S : zJ) (pn : Int) (RR : Int → Int → Int) (hI : CI J m) (h9 : J 145 10 < 1000000000) (cc : CAL J S pn RR) (h21 : S 164 21 = 0) : tz_Ok l G M_X11_bound 6 1 6 [.ref 0, zi x] n J (zqi (fun z J' => CQ J' J ∧ CAL J' S pn RR)) (fun E J' => E = "java/util/NoSuchElementException" ∧ J = J') := by
  refine tz_Ok.of hl (by decide +kernel) rfl (tb_c1 rfl) (Nat.le_of_ble_eq_true rfl) ?_
  show tz_At l G M_X11_bound (tb_rm 6 1 6) none (tb_ZM G 1 6 (zQ n 1 (zqi (fun z J' => CQ J' J ∧ CAL J' S pn RR))) (zX n 1 (fun E J' => E = "java/util/NoSuchElementException" ∧ J = J'))) 0 0 n J 0 [some (.ref 0), some (zi x)] []
  have hC := hI.1.1.1
  have hm := hI.1.1.2.1
  have hL := hI.1.1.2.2
  have hb := hC.told
  refine tz_iload_n (pc := 0) dX11_bound_0 rfl rfl ?_
  refine tz_cS (pc := 1) (c_isVarN hl n _ _ (by omega)) sl_X11_279 dX11_bound_1 rfl rfl (Nat.le_of_ble_eq_true rfl) ⟨(Nat.le_of_ble_eq_true rfl), (Nat.le_of_ble_eq_true rfl)⟩ rfl rfl (Nat.le_of_ble_eq_true rfl) (Nat.le_of_ble_eq_true rfl) (fun r9 J_1 hq9 => ?_)
  obtain ⟨z_1, rfl, hz_1, rfl, rfl⟩ := hq9
  by_cases hw_4 : 0 ≤ x ∧ x < 8
  · rw [show (if 0 ≤ x ∧ x < 8 then 1 else 0 : Int) = 1 from if_pos hw_4]
    refine tz_if_neT (pc := 4) (tgt := 18) (by decide) dX11_bound_4 (by decide) (by decide) ?_
    refine tz_aload_n (pc := 18) dX11_bound_18 rfl rfl ?_
    refine tz_fR (pc := 19) dX11_bound_19 fl_X11_29 r_0_1 ?_
    refine tz_fR (pc := 22) dX11_bound_22 fl_X11_156 r_5_1 ?_
    refine tz_fR (pc := 25) dX11_bound_25 fl_X11_167 r_18_0 ?_
    refine tz_bipush (pc := 28) dX11_bound_28 (by decide) ?_
    refine tz_iload_n (pc := 30) dX11_bound_30 rfl rfl ?_
    refine tz_iadd (pc := 31) (v := 7 + x) dX11_bound_31 rfl ?_
    refine tz_aL (pc := 32) (z := (7 + x)) (v := (J 19 (7 + x))) dX11_bound_32 a_19 rfl (by omega) rfl (fun r_32 => ?_)
    exact tz_iret (pc := 33) (z := (J 19 (7 + x))) dX11_bound_33 rfl (Nat.le_of_ble_eq_true rfl) (Nat.le_of_ble_eq_true rfl) ⟨Nat.le_refl _, Nat.le_add_right _ _⟩ ⟨_, rfl, (by omega), ⟨CQ.rf hI, cc⟩⟩
  · rw [show (if 0 ≤ x ∧ x < 8 then 1 else 0 : Int) = 0 from if_neg hw_4]
    refine tz_if_neF (pc := 4) (tgt := 18) (by decide) dX11_bound_4 (by decide) (by decide) ?_
    exact tz_throwNW (pc := 7) (text := "no such variable") th_X11_188_192 (by decide +kernel) rfl dX11_bound_7 dX11_bound_10 dX11_bound_11 dX11_bound_14 dX11_bound_17 (Nat.le_of_ble_eq_true rfl) (Nat.le_of_ble_eq_true rfl) (Nat.le_of_ble_eq_true rfl) (Nat.le_of_ble_eq_true rfl) (Nat.le_of_ble_eq_true rfl) (Nat.le_of_ble_eq_true rfl) ⟨Nat.le_refl _, Nat.le_add_right _ _⟩ ⟨rfl, rfl⟩

set_option maxHeartbeats 4000000 in
set_option maxRecDepth 100000 in
theorem l_fault {l : Launch} {G : tb_G} (hl : l.stackTraces = false) (n : Nat) (J : zJ)   (m : Int) (S : zJ) (pn : Int) (RR : Int → Int → Int) (hI : CI J m) (h9 : J 145 10 < 1000000000) (cc : CAL J S pn RR) (h21 : S 164 21 = 0) : tz_Ok l G M_X11_fault 0 0 0 [.ref 0] n J (zqi (fun z J' => CQ J' J ∧ CAL J' S pn RR ∧ J 0 14 = z)) zN := by
  refine tz_Ok.of hl (by decide +kernel) rfl (tb_c1 rfl) (Nat.le_of_ble_eq_true rfl) ?_
  show tz_At l G M_X11_fault (tb_rm 0 0 0) none (tb_ZM G 0 0 (zQ n 0 (zqi (fun z J' => CQ J' J ∧ CAL J' S pn RR ∧ J 0 14 = z))) (zX n 0 zN)) 0 0 n J 0 [some (.ref 0)] []
  refine tz_aload_n (pc := 0) dX11_fault_0 rfl rfl ?_
  refine tz_fI (pc := 1) (kz := 14) (v := (J 0 14)) dX11_fault_1 fl_X11_111 i_0_14 rfl rfl (fun r_1 => ?_)
  exact tz_iret (pc := 4) (z := (J 0 14)) dX11_fault_4 rfl (Nat.le_of_ble_eq_true rfl) (Nat.le_of_ble_eq_true rfl) ⟨Nat.le_refl _, Nat.le_add_right _ _⟩ ⟨_, rfl, (by omega), ⟨CQ.rf hI, cc, rfl⟩⟩

end
