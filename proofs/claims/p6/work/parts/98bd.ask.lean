/-! ===== the reference's table read through the class's ===== -/
theorem ma_all {J : zJ} {m : Int} (E : A0 J (tbz J)) (C : CT J m) (hm : J 6 12 = m) : (∀ t, 0 ≤ t → t < m → J 166 (0 + t) = J 7 t ∧ mar J 0 0 t = J 8 t ∧ msz J 0 0 t = J 10 t) ∧ ∀ t, 0 ≤ t → t < m → ∀ i, 0 ≤ i → i < J 8 t → mag J 0 t i = cag J t i := by
  have T := C.told
  have ts := C.1.1.1
  obtain ⟨⟨e1, e0'⟩, ⟨e6', E2', E3'⟩⟩ := E
  have e1' : J 1 3 = J 164 9 := e1
  have e6 : J 6 12 = J 165 0 := e6'
  have e0 : ∀ k, 0 ≤ k → k < J 164 9 → J 3 k = J 170 (0 + k) := fun k a b => by
    have q := (e0' k a b).2.1
    rw [show tbz J 170 (0 + k) = J 170 (0 + k) from if_pos ⟨by omega, by omega⟩] at q
    exact q
  have h6 : ∀ t, 0 ≤ t → t < m → J 166 (0 + t) = J 7 t := fun t a c => by
    have q := (E2' t a (show t < J 165 0 by omega)).1
    rw [show tbz J 166 (0 + t) = J 166 (0 + t) from if_pos ⟨by omega, by omega⟩] at q
    exact q.symm
  have E3 : ∀ t i, 0 ≤ t → t < m → 0 ≤ i → i < J 8 t → J 9 (t * 3 + i) = J 167 (3 * (0 + t) + i) := fun t i a c x y => by
    have ar := (C.ar a c).1
    have q := E3' t i a (show t < J 165 0 by omega) x y
    rw [show tbz J 167 (3 * (0 + t) + i) = J 167 (3 * (0 + t) + i) from if_pos ⟨by omega, by omega⟩] at q
    exact q
  have ha : ∀ t, 0 ≤ t → t < m → mar J 0 0 t = J 8 t := fun t a c => by
    have h7 := (C.ar a c).2.2
    unfold mar
    rw [h6 t a c, (C.2.1 t a c).1.1]
    exact arh_cg (fun q => (e0 _ q (by omega)).symm)
  have hg : ∀ t, 0 ≤ t → t < m → ∀ i, 0 ≤ i → i < J 8 t → mag J 0 t i = cag J t i := fun t a c i x y => (E3 t i a c x y).symm
  have td' : TD m (mar J 0 0) (mag J 0) (J 12) := fun t x y => by
    obtain ⟨a, b, c⟩ := C.td t x y
    refine ⟨by rw [ha t x y]; exact a, b, fun i p q => ?_⟩
    rw [ha t x y] at q
    rw [hg t x y i p q]
    exact c i p q
  have hz : ∀ t, 0 ≤ t → t < m → msz J 0 0 t = J 10 t := fun t a c => by
    have h12 := (C.td t a c).2.1
    rw [C.sz ⟨a, c⟩]
    exact (tsz_sS td' 6 t ⟨a, c⟩ (by omega)).trans (sV_cg C.td (fun _ _ _ => rfl) ha hg 6 t ⟨a, c⟩)
  exact ⟨fun t a b => ⟨h6 t a b, ha t a b, hz t a b⟩, hg⟩
theorem mar_z {J' J : zJ} (f : MZ J' J) : mar J' 0 0 = mar J 0 0 := by
  funext t
  unfold mar
  rw [f.1 166 rfl, f.1 170 rfl]
theorem mag_z {J' J : zJ} (f : MZ J' J) : mag J' 0 = mag J 0 := by
  funext t i
  unfold mag
  rw [f.1 167 rfl]
theorem msz_z {J' J : zJ} (f : MZ J' J) : msz J' 0 0 = msz J 0 0 := by
  funext t
  unfold msz
  rw [mar_z f, mag_z f]
theorem mtb_hi {J1 J : zJ} (f : ∀ c, 164 ≤ c → c < 183 → J1 c = J c) : mar J1 0 0 = mar J 0 0 ∧ mag J1 0 = mag J 0 ∧ msz J1 0 0 = msz J 0 0 := by
  have a : mar J1 0 0 = mar J 0 0 := by
    funext t
    unfold mar
    rw [f 166 (by decide) (by decide), f 170 (by decide) (by decide)]
  have b : mag J1 0 = mag J 0 := by
    funext t i
    unfold mag
    rw [f 167 (by decide) (by decide)]
  refine ⟨a, b, ?_⟩
  funext t
  unfold msz
  rw [a, b]
/-! ===== symbol: the order with a weight tried ===== -/
theorem or_l {z : Int} {a : Prop} (h : (z = 1 ∧ a) ∨ (z = 0 ∧ ¬ a)) (k : ¬ z = 0) : a := h.elim (fun w => w.2) (fun w => absurd w.1 k)
theorem or_r {z : Int} {a : Prop} (h : (z = 1 ∧ a) ∨ (z = 0 ∧ ¬ a)) (k : z = 0) : ¬ a := h.elim (fun w => absurd (w.1.symm.trans k) (by decide)) (fun w => w.2)
def xgw (J : zJ) (sy wy : Int) : Int → Int := fun t => if J 7 t < 0 then 1 else if J 7 t = sy then wy else J 4 (J 7 t)
def xwt (J : zJ) (sy wy : Int) : Int → Int := sV (xgw J sy wy) (J 8) (cag J)
def xgt (J : zJ) (sy wy : Int) (k : Nat) (s t : Int) : Prop := gtP (ccn J) (xwt J sy wy) (J 7) (J 8) (cag J) k s t
def xru (J : zJ) (sy wy x y : Int) : Prop := 0 ≤ J 7 x ∧ xgt J sy wy 6 x y ∧ J 10 x ≤ 12 ∧ J 10 y ≤ 12
theorem xwt_of {J' J : zJ} {sy wy : Int} (f : zOf (zbut [156, 157]) J' J) : xwt J' sy wy = xwt J sy wy ∧ ccn J' = ccn J := by
  refine ⟨?_, (cwt_of f).2⟩
  unfold xwt xgw cag
  rw [f 4 rfl, f 7 rfl, f 8 rfl, f 9 rfl]
theorem xru_of {J' J : zJ} {sy wy : Int} (f : zOf (zbut [156, 157]) J' J) : xru J' sy wy = xru J sy wy := by
  funext x y
  unfold xru xgt
  rw [(xwt_of f).1, (cwt_of f).2]
  unfold cag
  rw [f 7 rfl, f 8 rfl, f 9 rfl, f 10 rfl]
theorem xgw_rg {J : zJ} {m sy wy : Int} (h : CT J m) (hw : 1 ≤ wy ∧ wy ≤ 9) : ∀ t, 0 ≤ t → t < m → 0 ≤ xgw J sy wy t ∧ xgw J sy wy t ≤ 9 := fun t x y => by
  have h1 := (h.ar x y).2.2
  unfold xgw
  split
  · omega
  · split
    · omega
    · have := h.1.2 (J 7 t) (by omega) (by omega)
      omega
theorem xwt_rg {J : zJ} {m t sy wy : Int} (h : CT J m) (hw : 1 ≤ wy ∧ wy ≤ 9) (ht : 0 ≤ t ∧ t < m) : 0 ≤ xwt J sy wy t ∧ xwt J sy wy t ≤ 9 * 364 := sV_rg h.td (xgw_rg h hw) ht
theorem xgw_at {J : zJ} {sy wy t : Int} (h : ¬ J 7 t < 0) : (J 7 t = sy ∧ xgw J sy wy t = wy) ∨ (¬ J 7 t = sy ∧ xgw J sy wy t = J 4 (J 7 t)) := by
  unfold xgw
  rw [if_neg h]
  by_cases e : J 7 t = sy
  · exact Or.inl ⟨e, if_pos e⟩
  · exact Or.inr ⟨e, if_neg e⟩
set_option maxHeartbeats 4000000 in
set_option maxRecDepth 100000 in
theorem t_weighPR {l : Launch} {G : tb_G} (hl : l.stackTraces = false) (n : Nat) : ∀ (r9 : Nat) (J : zJ) (t : Int) (lv : Int) (hr_t : -2147483648 ≤ t ∧ t < 2147483648) (hr_lv : -2147483648 ≤ lv ∧ lv < 2147483648) (m sy wy : Int) (C : CT J m) (ht : 0 ≤ t ∧ t < m) (hl9 : 1 ≤ lv ∧ lv + J 12 t ≤ 7) (hw : 1 ≤ wy ∧ wy ≤ 9) (h3 : J 156 3 = sy ∧ J 156 4 = wy) (hB : -10000 + xwt J sy wy t ≤ J 156 2 ∧ J 156 2 ≤ 10000 - xwt J sy wy t) (hV : ∀ v, 0 ≤ v → v < 8 → -10000 + ccn J v t ≤ J 157 v ∧ J 157 v ≤ 10000 - ccn J v t), ((J 12 t).toNat) < r9 → tz_Ok l G M_X4_weigh (3 + 1 * r9) 0 0 [.ref 156, zi t, zi 1, zi lv] n J (zqv (fun J' => (zOf (zbut [156, 157]) J' J ∧ ∀ k, ¬ k = 2 → J' 156 k = J 156 k) ∧ J' 156 2 = J 156 2 + xwt J sy wy t ∧ ∀ v, 0 ≤ v → v < 8 → J' 157 v = J 157 v + ccn J v t)) zN := by
  intro r9
  induction r9 with
  | zero => intro J t lv hr_t hr_lv m sy wy C ht hl9 hw h3 hB hV hm9; exact absurd hm9 (Nat.not_lt_zero _)
  | succ r9 ih =>
    intro J t lv hr_t hr_lv m sy wy C ht hl9 hw h3 hB hV hm9
    refine tz_Ok.of hl (by decide +kernel) rfl (tb_c1 rfl) (Nat.le_of_ble_eq_true rfl) ?_
    show tz_At l G M_X4_weigh (tb_rm (3 + 1 * (r9 + 1)) 0 0) none (tb_ZM G 0 0 (zQ n 0 (zqv (fun J' => (zOf (zbut [156, 157]) J' J ∧ ∀ k, ¬ k = 2 → J' 156 k = J 156 k) ∧ J' 156 2 = J 156 2 + xwt J sy wy t ∧ ∀ v, 0 ≤ v → v < 8 → J' 157 v = J 157 v + ccn J v t))) (zX n 0 zN)) 0 0 n J 0 [some (.ref 156), some (zi t), some (zi 1), some (zi lv), none, none] []
    have hm := C.told
    have ha := C.ar ht.1 ht.2
    have hn := (C.nums ht.1 ht.2).2.2
    have hwr := xwt_rg (sy := sy) C hw ht
    have hU := sV_un (g := xgw J sy wy) C.td ht
    have hUv := fun v => sV_un (g := cgc J v) C.td ht
    refine tz_iload_n (pc := 0) dX4_weigh_0 rfl rfl ?_
    refine tz_bipush (pc := 1) dX4_weigh_1 (by decide) ?_
    refine tz_icmp_leT (pc := 3) (tgt := 7) (by omega) dX4_weigh_3 (by decide) (by omega) (by decide) ?_
    refine tz_aload_n (pc := 7) dX4_weigh_7 rfl rfl ?_
    refine tz_fR (pc := 8) dX4_weigh_8 fl_X4_25 r_156_0 ?_
    refine tz_fR (pc := 11) dX4_weigh_11 fl_X4_43 r_6_1 ?_
    refine tz_iload_n (pc := 14) dX4_weigh_14 rfl rfl ?_
    refine tz_aL (pc := 15) (z := t) (v := (J 7 t)) dX4_weigh_15 a_7 rfl (by omega) rfl (fun r_15 => ?_)
    refine tz_istore (pc := 16) (L2 := [_, _, _, _, _, _]) dX4_weigh_16 (by decide) rfl ?_
    refine tz_iload (pc := 18) dX4_weigh_18 rfl ?_
    refine tz_if_ge (pc := 20) (tgt := 47) dX4_weigh_20 (by decide) (by omega) (fun h_20 => ?_) (fun h_20 => ?_)
    · refine tz_aload_n (pc := 47) dX4_weigh_47 rfl rfl ?_
      refine tz_dup (pc := 48) dX4_weigh_48 rfl ?_
      refine tz_fI (pc := 49) (kz := 2) (v := (J 156 2)) dX4_weigh_49 fl_X4_15 i_156_2 rfl rfl (fun r_49 => ?_)
      refine tz_iload_n (pc := 52) dX4_weigh_52 rfl rfl ?_
      refine tz_iload (pc := 53) dX4_weigh_53 rfl ?_
      refine tz_aload_n (pc := 55) dX4_weigh_55 rfl rfl ?_
      refine tz_fI (pc := 56) (kz := 3) (v := sy) dX4_weigh_56 fl_X4_19 i_156_3 rfl h3.1 (fun r_56 => ?_)
      have hq9 := C.1.2 (J 7 t) (by omega) (by omega)
      have hgw := xgw_at (J := J) (sy := sy) (wy := wy) (t := t) (by omega)
      have hgc : ∀ v, 0 ≤ v → v < 8 → cgc J v t = 0 := fun v x y => by unfold cgc; rw [if_neg (by omega)]
      refine tz_icmp_ne (pc := 59) (tgt := 69) dX4_weigh_59 (by decide) (by omega) (by omega) (fun h_59 => ?_) (fun h_59 => ?_)
      · refine tz_aload_n (pc := 69) dX4_weigh_69 rfl rfl ?_
        refine tz_fR (pc := 70) dX4_weigh_70 fl_X4_25 r_156_0 ?_
        refine tz_fR (pc := 73) dX4_weigh_73 fl_X4_63 r_6_0 ?_
        refine tz_fR (pc := 76) dX4_weigh_76 fl_X4_67 r_1_2 ?_
        refine tz_iload (pc := 79) dX4_weigh_79 rfl ?_
        refine tz_aL (pc := 81) (z := (J 7 t)) (v := (J 4 (J 7 t))) dX4_weigh_81 a_4 rfl (by omega) rfl (fun r_81 => ?_)
        refine tz_imul (pc := 82) (v := 1 * (J 4 (J 7 t))) dX4_weigh_82 rfl ?_
        refine tz_iadd (pc := 83) (v := (J 156 2) + (1 * (J 4 (J 7 t)))) dX4_weigh_83 rfl ?_
        refine tz_pI (pc := 84) (kz := 2) dX4_weigh_84 fl_X4_15 i_156_2 rfl rfl (by omega) ?_
        refine tz_iconst (pc := 87) dX4_weigh_87 ?_
        refine tz_istore (pc := 88) (L2 := [_, _, _, _, _, _]) dX4_weigh_88 (by decide) rfl ?_
        have loop90 : ∀ (f9 : Nat) (i : Int) (J1 : zJ), ((3 - i).toNat) < f9 → (0 ≤ i ∧ i ≤ J 8 t) → (zOf (zbut [156, 157]) J1 J ∧ ∀ k, ¬ k = 2 → J1 156 k = J 156 k) → (J1 156 2 = J 156 2 + (xgw J sy wy t + sps (xwt J sy wy) (cag J) t i.toNat)) → (∀ v, 0 ≤ v → v < 8 → J1 157 v = J 157 v + sps (ccn J v) (cag J) t i.toNat) → tz_At l G M_X4_weigh (tb_rm (3 + 1 * (r9 + 1)) 0 0) none (tb_ZM G 0 0 (zQ n 0 (zqv (fun J' => (zOf (zbut [156, 157]) J' J ∧ ∀ k, ¬ k = 2 → J' 156 k = J 156 k) ∧ J' 156 2 = J 156 2 + xwt J sy wy t ∧ ∀ v, 0 ≤ v → v < 8 → J' 157 v = J 157 v + ccn J v t))) (zX n 0 zN)) 0 0 n J1 90 [some (.ref 156), some (zi t), some (zi 1), some (zi lv), some (zi (J 7 t)), some (zi i)] [] := by
          intro f9
          induction f9 with
          | zero => intro i J1 hm9; exact absurd hm9 (Nat.not_lt_zero _)
          | succ f9 ih90 =>
            intro i J1 hm90 hi f1 w1 b1
            refine tz_iload (pc := 90) dX4_weigh_90 rfl ?_
            refine tz_aload_n (pc := 92) dX4_weigh_92 rfl rfl ?_
            refine tz_fR (pc := 93) dX4_weigh_93 fl_X4_25 r_156_0 ?_
            refine tz_fR (pc := 96) dX4_weigh_96 fl_X4_72 r_6_2 ?_
            refine tz_iload_n (pc := 99) dX4_weigh_99 rfl rfl ?_
            refine tz_aL (pc := 100) (z := t) (v := (J 8 t)) dX4_weigh_100 a_8 rfl (by omega) (Eq.trans (congrFun (f1.1 8 rfl) t) rfl) (fun r_100 => ?_)
            refine tz_icmp_ge (pc := 101) (tgt := 128) dX4_weigh_101 (by decide) (by omega) (by omega) (fun h_101 => ?_) (fun h_101 => ?_)
            · exact tz_vret (pc := 128) dX4_weigh_128 rfl (Nat.le_of_ble_eq_true rfl) (Nat.le_of_ble_eq_true rfl) ⟨Nat.le_refl _, Nat.le_add_right _ _⟩ ⟨rfl, ⟨f1, by rw [w1]; unfold xwt; rw [hU, show (J 8 t).toNat = i.toNat by omega], fun v x y => by rw [b1 v x y]; unfold ccn; rw [hUv v, hgc v x y, show (J 8 t).toNat = i.toNat by omega]; show _ = J 157 v + (0 + sps (ccn J v) (cag J) t i.toNat); unfold ccn; omega⟩⟩
            · refine tz_aload_n (pc := 104) dX4_weigh_104 rfl rfl ?_
              refine tz_aload_n (pc := 105) dX4_weigh_105 rfl rfl ?_
              refine tz_fR (pc := 106) dX4_weigh_106 fl_X4_25 r_156_0 ?_
              refine tz_iload_n (pc := 109) dX4_weigh_109 rfl rfl ?_
              refine tz_iload (pc := 110) dX4_weigh_110 rfl ?_
              refine tz_cV (pc := 112) (c_arg hl n _ _ _ (by omega) (by omega) (by omega)) vl_X4_50 dX4_weigh_112 o_6 rfl rfl (Nat.le_of_ble_eq_true rfl) ⟨(show 0 + 1 ≤ 3 + 1 * (r9 + 1) by omega), (show 8 + (3 + 11) + 40 * (0) ≤ 40 * (3 + 1 * (r9 + 1)) by omega)⟩ rfl rfl (Nat.le_of_ble_eq_true rfl) (Nat.le_of_ble_eq_true rfl) (fun r9 J_112 hq9 => ?_)
              obtain ⟨z_112, rfl, hz_112, rfl, hv_112⟩ := hq9
              rw [f1.1 9 rfl] at hv_112
              obtain rfl : J 9 (t * 3 + i) = z_112 := hv_112
              refine tz_iload_n (pc := 115) dX4_weigh_115 rfl rfl ?_
              refine tz_iload_n (pc := 116) dX4_weigh_116 rfl rfl ?_
              refine tz_iconst (pc := 117) dX4_weigh_117 ?_
              refine tz_iadd (pc := 118) (v := lv + 1) dX4_weigh_118 rfl ?_
              have g1 := C.arg (t := t) (i := i) (by omega) (by omega) (by omega) (by omega)
              have sa := sV_arg C.td (xgw_rg (sy := sy) C hw) ht (i := i) (by omega)
              have sc := fun v => sV_arg C.td (cgc_rg (J := J) (v := v) (m := m)) ht (i := i) (by omega)
              have wa := xwt_rg (sy := sy) C hw (t := J 9 (t * 3 + i)) (by omega)
              have saw : 0 ≤ sps (xwt J sy wy) (cag J) t i.toNat ∧ xgw J sy wy t + sps (xwt J sy wy) (cag J) t i.toNat + xwt J sy wy (J 9 (t * 3 + i)) ≤ xwt J sy wy t := sa
              refine tz_cV (pc := 119) (ih _ _ _ (by omega) (by omega) m sy wy (C.of (fun c hc => f1.1 c (by simp [zbut]; omega))) (by omega) (by rw [f1.1 12 rfl]; omega) hw ⟨(f1.2 3 (by decide)).trans h3.1, (f1.2 4 (by decide)).trans h3.2⟩ (by rw [(xwt_of (sy := sy) (wy := wy) f1.1).1]; omega) (fun v x y => by have scv : 0 ≤ sps (ccn J v) (cag J) t i.toNat ∧ cgc J v t + sps (ccn J v) (cag J) t i.toNat + ccn J v (J 9 (t * 3 + i)) ≤ ccn J v t := sc v; have hg0 := cgc_rg (J := J) (v := v) (m := m) t ht.1 ht.2; have hv := hV v x y; have bv := b1 v x y; rw [(cwt_of f1.1).2]; omega) (by rw [f1.1 12 rfl]; omega)) vl_X4_59 dX4_weigh_119 o_156 rfl rfl (Nat.le_of_ble_eq_true rfl) ⟨(show (3 + 1 * r9) + 1 ≤ 3 + 1 * (r9 + 1) by omega), (show 8 + (6 + 11) + 40 * ((3 + 1 * r9)) ≤ 40 * (3 + 1 * (r9 + 1)) by omega)⟩ rfl rfl (Nat.le_of_ble_eq_true rfl) (Nat.le_of_ble_eq_true rfl) (fun r9 J_119 hq9 => ?_)
              obtain ⟨rfl, f2, w2, b2⟩ := hq9
              rw [(xwt_of (sy := sy) (wy := wy) f1.1).1] at w2
              rw [(cwt_of f1.1).2] at b2
              refine tz_iinc (pc := 122) (z := i + 1) (L2 := [_, _, _, _, _, _]) dX4_weigh_122 rfl (by omega) rfl ?_
              refine tz_goto (pc := 125) (tgt := 90) dX4_weigh_125 (by decide) ?_
              exact ih90 (i + 1) _ (by omega) (by omega) ⟨f2.1.tr f1.1, fun k hk => (f2.2 k hk).trans (f1.2 k hk)⟩ (by rw [sps_s hi.1, w2, w1]; show _ = J 156 2 + (xgw J sy wy t + (sps (xwt J sy wy) (cag J) t i.toNat + xwt J sy wy (J 9 (t * 3 + i)))); omega) (fun v x y => by rw [sps_s hi.1, b2 v x y, b1 v x y]; show _ = J 157 v + (sps (ccn J v) (cag J) t i.toNat + ccn J v (J 9 (t * 3 + i))); omega)
        exact loop90 _ 0 _ (Nat.lt_succ_self _) (by omega) ⟨zOf.up rfl zOf.rf, fun k hk => zup_ne hk⟩ (by rw [zup_at]; show _ = J 156 2 + (xgw J sy wy t + 0); omega) (fun v x y => by show J 157 v = J 157 v + 0; omega)
      · refine tz_aload_n (pc := 62) dX4_weigh_62 rfl rfl ?_
        refine tz_fI (pc := 63) (kz := 4) (v := wy) dX4_weigh_63 fl_X4_22 i_156_4 rfl h3.2 (fun r_63 => ?_)
        refine tz_goto (pc := 66) (tgt := 82) dX4_weigh_66 (by decide) ?_
        refine tz_imul (pc := 82) (v := 1 * wy) dX4_weigh_82 rfl ?_
        refine tz_iadd (pc := 83) (v := (J 156 2) + (1 * wy)) dX4_weigh_83 rfl ?_
        refine tz_pI (pc := 84) (kz := 2) dX4_weigh_84 fl_X4_15 i_156_2 rfl rfl (by omega) ?_
        refine tz_iconst (pc := 87) dX4_weigh_87 ?_
        refine tz_istore (pc := 88) (L2 := [_, _, _, _, _, _]) dX4_weigh_88 (by decide) rfl ?_
        have loop90 : ∀ (f9 : Nat) (i : Int) (J1 : zJ), ((3 - i).toNat) < f9 → (0 ≤ i ∧ i ≤ J 8 t) → (zOf (zbut [156, 157]) J1 J ∧ ∀ k, ¬ k = 2 → J1 156 k = J 156 k) → (J1 156 2 = J 156 2 + (xgw J sy wy t + sps (xwt J sy wy) (cag J) t i.toNat)) → (∀ v, 0 ≤ v → v < 8 → J1 157 v = J 157 v + sps (ccn J v) (cag J) t i.toNat) → tz_At l G M_X4_weigh (tb_rm (3 + 1 * (r9 + 1)) 0 0) none (tb_ZM G 0 0 (zQ n 0 (zqv (fun J' => (zOf (zbut [156, 157]) J' J ∧ ∀ k, ¬ k = 2 → J' 156 k = J 156 k) ∧ J' 156 2 = J 156 2 + xwt J sy wy t ∧ ∀ v, 0 ≤ v → v < 8 → J' 157 v = J 157 v + ccn J v t))) (zX n 0 zN)) 0 0 n J1 90 [some (.ref 156), some (zi t), some (zi 1), some (zi lv), some (zi (J 7 t)), some (zi i)] [] := by
          intro f9
          induction f9 with
          | zero => intro i J1 hm9; exact absurd hm9 (Nat.not_lt_zero _)
          | succ f9 ih90 =>
            intro i J1 hm90 hi f1 w1 b1
            refine tz_iload (pc := 90) dX4_weigh_90 rfl ?_
            refine tz_aload_n (pc := 92) dX4_weigh_92 rfl rfl ?_
            refine tz_fR (pc := 93) dX4_weigh_93 fl_X4_25 r_156_0 ?_
            refine tz_fR (pc := 96) dX4_weigh_96 fl_X4_72 r_6_2 ?_
            refine tz_iload_n (pc := 99) dX4_weigh_99 rfl rfl ?_
            refine tz_aL (pc := 100) (z := t) (v := (J 8 t)) dX4_weigh_100 a_8 rfl (by omega) (Eq.trans (congrFun (f1.1 8 rfl) t) rfl) (fun r_100 => ?_)
            refine tz_icmp_ge (pc := 101) (tgt := 128) dX4_weigh_101 (by decide) (by omega) (by omega) (fun h_101 => ?_) (fun h_101 => ?_)
            · exact tz_vret (pc := 128) dX4_weigh_128 rfl (Nat.le_of_ble_eq_true rfl) (Nat.le_of_ble_eq_true rfl) ⟨Nat.le_refl _, Nat.le_add_right _ _⟩ ⟨rfl, ⟨f1, by rw [w1]; unfold xwt; rw [hU, show (J 8 t).toNat = i.toNat by omega], fun v x y => by rw [b1 v x y]; unfold ccn; rw [hUv v, hgc v x y, show (J 8 t).toNat = i.toNat by omega]; show _ = J 157 v + (0 + sps (ccn J v) (cag J) t i.toNat); unfold ccn; omega⟩⟩
            · refine tz_aload_n (pc := 104) dX4_weigh_104 rfl rfl ?_
              refine tz_aload_n (pc := 105) dX4_weigh_105 rfl rfl ?_
              refine tz_fR (pc := 106) dX4_weigh_106 fl_X4_25 r_156_0 ?_
              refine tz_iload_n (pc := 109) dX4_weigh_109 rfl rfl ?_
              refine tz_iload (pc := 110) dX4_weigh_110 rfl ?_
              refine tz_cV (pc := 112) (c_arg hl n _ _ _ (by omega) (by omega) (by omega)) vl_X4_50 dX4_weigh_112 o_6 rfl rfl (Nat.le_of_ble_eq_true rfl) ⟨(show 0 + 1 ≤ 3 + 1 * (r9 + 1) by omega), (show 8 + (3 + 11) + 40 * (0) ≤ 40 * (3 + 1 * (r9 + 1)) by omega)⟩ rfl rfl (Nat.le_of_ble_eq_true rfl) (Nat.le_of_ble_eq_true rfl) (fun r9 J_112 hq9 => ?_)
              obtain ⟨z_112, rfl, hz_112, rfl, hv_112⟩ := hq9
              rw [f1.1 9 rfl] at hv_112
              obtain rfl : J 9 (t * 3 + i) = z_112 := hv_112
              refine tz_iload_n (pc := 115) dX4_weigh_115 rfl rfl ?_
              refine tz_iload_n (pc := 116) dX4_weigh_116 rfl rfl ?_
              refine tz_iconst (pc := 117) dX4_weigh_117 ?_
              refine tz_iadd (pc := 118) (v := lv + 1) dX4_weigh_118 rfl ?_
              have g1 := C.arg (t := t) (i := i) (by omega) (by omega) (by omega) (by omega)
              have sa := sV_arg C.td (xgw_rg (sy := sy) C hw) ht (i := i) (by omega)
              have sc := fun v => sV_arg C.td (cgc_rg (J := J) (v := v) (m := m)) ht (i := i) (by omega)
              have wa := xwt_rg (sy := sy) C hw (t := J 9 (t * 3 + i)) (by omega)
              have saw : 0 ≤ sps (xwt J sy wy) (cag J) t i.toNat ∧ xgw J sy wy t + sps (xwt J sy wy) (cag J) t i.toNat + xwt J sy wy (J 9 (t * 3 + i)) ≤ xwt J sy wy t := sa
              refine tz_cV (pc := 119) (ih _ _ _ (by omega) (by omega) m sy wy (C.of (fun c hc => f1.1 c (by simp [zbut]; omega))) (by omega) (by rw [f1.1 12 rfl]; omega) hw ⟨(f1.2 3 (by decide)).trans h3.1, (f1.2 4 (by decide)).trans h3.2⟩ (by rw [(xwt_of (sy := sy) (wy := wy) f1.1).1]; omega) (fun v x y => by have scv : 0 ≤ sps (ccn J v) (cag J) t i.toNat ∧ cgc J v t + sps (ccn J v) (cag J) t i.toNat + ccn J v (J 9 (t * 3 + i)) ≤ ccn J v t := sc v; have hg0 := cgc_rg (J := J) (v := v) (m := m) t ht.1 ht.2; have hv := hV v x y; have bv := b1 v x y; rw [(cwt_of f1.1).2]; omega) (by rw [f1.1 12 rfl]; omega)) vl_X4_59 dX4_weigh_119 o_156 rfl rfl (Nat.le_of_ble_eq_true rfl) ⟨(show (3 + 1 * r9) + 1 ≤ 3 + 1 * (r9 + 1) by omega), (show 8 + (6 + 11) + 40 * ((3 + 1 * r9)) ≤ 40 * (3 + 1 * (r9 + 1)) by omega)⟩ rfl rfl (Nat.le_of_ble_eq_true rfl) (Nat.le_of_ble_eq_true rfl) (fun r9 J_119 hq9 => ?_)
              obtain ⟨rfl, f2, w2, b2⟩ := hq9
              rw [(xwt_of (sy := sy) (wy := wy) f1.1).1] at w2
              rw [(cwt_of f1.1).2] at b2
              refine tz_iinc (pc := 122) (z := i + 1) (L2 := [_, _, _, _, _, _]) dX4_weigh_122 rfl (by omega) rfl ?_
              refine tz_goto (pc := 125) (tgt := 90) dX4_weigh_125 (by decide) ?_
              exact ih90 (i + 1) _ (by omega) (by omega) ⟨f2.1.tr f1.1, fun k hk => (f2.2 k hk).trans (f1.2 k hk)⟩ (by rw [sps_s hi.1, w2, w1]; show _ = J 156 2 + (xgw J sy wy t + (sps (xwt J sy wy) (cag J) t i.toNat + xwt J sy wy (J 9 (t * 3 + i)))); omega) (fun v x y => by rw [sps_s hi.1, b2 v x y, b1 v x y]; show _ = J 157 v + (sps (ccn J v) (cag J) t i.toNat + ccn J v (J 9 (t * 3 + i))); omega)
        exact loop90 _ 0 _ (Nat.lt_succ_self _) (by omega) ⟨zOf.up rfl zOf.rf, fun k hk => zup_ne hk⟩ (by rw [zup_at]; show _ = J 156 2 + (xgw J sy wy t + 0); omega) (fun v x y => by show J 157 v = J 157 v + 0; omega)
    · refine tz_aload_n (pc := 23) dX4_weigh_23 rfl rfl ?_
      refine tz_fR (pc := 24) dX4_weigh_24 fl_X4_9 r_156_1 ?_
      refine tz_iload (pc := 27) dX4_weigh_27 rfl ?_
      refine tz_iconst (pc := 29) dX4_weigh_29 ?_
      refine tz_ixor (pc := 30) (v := -1 - J 7 t) dX4_weigh_30 (z_nn (by omega)) ?_
      refine tz_dup2 (pc := 31) dX4_weigh_31 rfl rfl ?_
      have hv9 := hV (-1 - J 7 t) (by omega) (by omega)
      have hc9 := ccn_rg (v := -1 - J 7 t) C ht
      have hw9 : xwt J sy wy t = 1 := by unfold xwt; rw [hU, ha.2.1 (by omega)]; show xgw J sy wy t + 0 = 1; unfold xgw; rw [if_pos (by omega)]; omega
      have hx9 : ∀ v, ccn J v t = if J 7 t = -1 - v then 1 else 0 := fun v => by unfold ccn; rw [hUv v, ha.2.1 (by omega)]; show cgc J v t + 0 = _; unfold cgc; omega
      have hy9 := hx9 (-1 - J 7 t)
      rw [if_pos (by omega)] at hy9
      refine tz_aL (pc := 32) (z := (-1 - J 7 t)) (v := (J 157 (-1 - J 7 t))) dX4_weigh_32 a_157 rfl (by omega) rfl (fun r_32 => ?_)
      refine tz_iload_n (pc := 33) dX4_weigh_33 rfl rfl ?_
      refine tz_iadd (pc := 34) (v := (J 157 (-1 - J 7 t)) + 1) dX4_weigh_34 rfl ?_
      refine tz_aS (pc := 35) (z := (-1 - J 7 t)) dX4_weigh_35 a_157 rfl (by omega) (by omega) ?_
      refine tz_aload_n (pc := 36) dX4_weigh_36 rfl rfl ?_
      refine tz_dup (pc := 37) dX4_weigh_37 rfl ?_
      refine tz_fI (pc := 38) (kz := 2) (v := (J 156 2)) dX4_weigh_38 fl_X4_15 i_156_2 rfl rfl (fun r_38 => ?_)
      refine tz_iload_n (pc := 41) dX4_weigh_41 rfl rfl ?_
      refine tz_iadd (pc := 42) (v := (J 156 2) + 1) dX4_weigh_42 rfl ?_
      refine tz_pI (pc := 43) (kz := 2) dX4_weigh_43 fl_X4_15 i_156_2 rfl rfl (by omega) ?_
      exact tz_vret (pc := 46) dX4_weigh_46 rfl (Nat.le_of_ble_eq_true rfl) (Nat.le_of_ble_eq_true rfl) ⟨Nat.le_refl _, Nat.le_add_right _ _⟩ ⟨rfl, ⟨⟨zOf.up rfl (zOf.up rfl zOf.rf), fun k hk => (zup_ne hk).trans rfl⟩, by rw [zup_at]; omega, fun v x y => by show (if v = -1 - J 7 t then J 157 (-1 - J 7 t) + 1 else J 157 v) = _; rw [hx9 v]; by_cases e : v = -1 - J 7 t; rw [if_pos e, if_pos (by omega), ← e]; skip; rw [if_neg e, if_neg (by omega)]; omega⟩⟩

theorem t_weighP {l : Launch} {G : tb_G} (hl : l.stackTraces = false) (n : Nat) (J : zJ) (t : Int) (hr_t : -2147483648 ≤ t ∧ t < 2147483648) (m sy wy : Int) (C : CT J m) (ht : 0 ≤ t ∧ t < m) (hw : 1 ≤ wy ∧ wy ≤ 9) (h3 : J 156 3 = sy ∧ J 156 4 = wy) (hB : -10000 + xwt J sy wy t ≤ J 156 2 ∧ J 156 2 ≤ 10000 - xwt J sy wy t) (hV : ∀ v, 0 ≤ v → v < 8 → -10000 + ccn J v t ≤ J 157 v ∧ J 157 v ≤ 10000 - ccn J v t) : tz_Ok l G M_X4_weigh 10 0 0 [.ref 156, zi t, zi 1, zi 1] n J (zqv (fun J' => (zOf (zbut [156, 157]) J' J ∧ ∀ k, ¬ k = 2 → J' 156 k = J 156 k) ∧ J' 156 2 = J 156 2 + xwt J sy wy t ∧ ∀ v, 0 ≤ v → v < 8 → J' 157 v = J 157 v + ccn J v t)) zN := t_weighPR hl n 7 J t 1 hr_t (by decide) m sy wy C ht (by have := (C.nums ht.1 ht.2).2.2; omega) hw h3 hB hV (by have := (C.nums ht.1 ht.2).2.2; omega)
set_option maxHeartbeats 4000000 in
set_option maxRecDepth 100000 in
theorem t_weighNR {l : Launch} {G : tb_G} (hl : l.stackTraces = false) (n : Nat) : ∀ (r9 : Nat) (J : zJ) (t : Int) (lv : Int) (hr_t : -2147483648 ≤ t ∧ t < 2147483648) (hr_lv : -2147483648 ≤ lv ∧ lv < 2147483648) (m sy wy : Int) (C : CT J m) (ht : 0 ≤ t ∧ t < m) (hl9 : 1 ≤ lv ∧ lv + J 12 t ≤ 7) (hw : 1 ≤ wy ∧ wy ≤ 9) (h3 : J 156 3 = sy ∧ J 156 4 = wy) (hB : -10000 + xwt J sy wy t ≤ J 156 2 ∧ J 156 2 ≤ 10000 - xwt J sy wy t) (hV : ∀ v, 0 ≤ v → v < 8 → -10000 + ccn J v t ≤ J 157 v ∧ J 157 v ≤ 10000 - ccn J v t), ((J 12 t).toNat) < r9 → tz_Ok l G M_X4_weigh (3 + 1 * r9) 0 0 [.ref 156, zi t, zi (-1), zi lv] n J (zqv (fun J' => (zOf (zbut [156, 157]) J' J ∧ ∀ k, ¬ k = 2 → J' 156 k = J 156 k) ∧ J' 156 2 = J 156 2 - xwt J sy wy t ∧ ∀ v, 0 ≤ v → v < 8 → J' 157 v = J 157 v - ccn J v t)) zN := by
  intro r9
  induction r9 with
  | zero => intro J t lv hr_t hr_lv m sy wy C ht hl9 hw h3 hB hV hm9; exact absurd hm9 (Nat.not_lt_zero _)
  | succ r9 ih =>
    intro J t lv hr_t hr_lv m sy wy C ht hl9 hw h3 hB hV hm9
    refine tz_Ok.of hl (by decide +kernel) rfl (tb_c1 rfl) (Nat.le_of_ble_eq_true rfl) ?_
    show tz_At l G M_X4_weigh (tb_rm (3 + 1 * (r9 + 1)) 0 0) none (tb_ZM G 0 0 (zQ n 0 (zqv (fun J' => (zOf (zbut [156, 157]) J' J ∧ ∀ k, ¬ k = 2 → J' 156 k = J 156 k) ∧ J' 156 2 = J 156 2 - xwt J sy wy t ∧ ∀ v, 0 ≤ v → v < 8 → J' 157 v = J 157 v - ccn J v t))) (zX n 0 zN)) 0 0 n J 0 [some (.ref 156), some (zi t), some (zi (-1)), some (zi lv), none, none] []
    have hm := C.told
    have ha := C.ar ht.1 ht.2
    have hn := (C.nums ht.1 ht.2).2.2
    have hwr := xwt_rg (sy := sy) C hw ht
    have hU := sV_un (g := xgw J sy wy) C.td ht
    have hUv := fun v => sV_un (g := cgc J v) C.td ht
    refine tz_iload_n (pc := 0) dX4_weigh_0 rfl rfl ?_
    refine tz_bipush (pc := 1) dX4_weigh_1 (by decide) ?_
    refine tz_icmp_leT (pc := 3) (tgt := 7) (by omega) dX4_weigh_3 (by decide) (by omega) (by decide) ?_
    refine tz_aload_n (pc := 7) dX4_weigh_7 rfl rfl ?_
    refine tz_fR (pc := 8) dX4_weigh_8 fl_X4_25 r_156_0 ?_
    refine tz_fR (pc := 11) dX4_weigh_11 fl_X4_43 r_6_1 ?_
    refine tz_iload_n (pc := 14) dX4_weigh_14 rfl rfl ?_
    refine tz_aL (pc := 15) (z := t) (v := (J 7 t)) dX4_weigh_15 a_7 rfl (by omega) rfl (fun r_15 => ?_)
    refine tz_istore (pc := 16) (L2 := [_, _, _, _, _, _]) dX4_weigh_16 (by decide) rfl ?_
    refine tz_iload (pc := 18) dX4_weigh_18 rfl ?_
    refine tz_if_ge (pc := 20) (tgt := 47) dX4_weigh_20 (by decide) (by omega) (fun h_20 => ?_) (fun h_20 => ?_)
    · refine tz_aload_n (pc := 47) dX4_weigh_47 rfl rfl ?_
      refine tz_dup (pc := 48) dX4_weigh_48 rfl ?_
      refine tz_fI (pc := 49) (kz := 2) (v := (J 156 2)) dX4_weigh_49 fl_X4_15 i_156_2 rfl rfl (fun r_49 => ?_)
      refine tz_iload_n (pc := 52) dX4_weigh_52 rfl rfl ?_
      refine tz_iload (pc := 53) dX4_weigh_53 rfl ?_
      refine tz_aload_n (pc := 55) dX4_weigh_55 rfl rfl ?_
      refine tz_fI (pc := 56) (kz := 3) (v := sy) dX4_weigh_56 fl_X4_19 i_156_3 rfl h3.1 (fun r_56 => ?_)
      have hq9 := C.1.2 (J 7 t) (by omega) (by omega)
      have hgw := xgw_at (J := J) (sy := sy) (wy := wy) (t := t) (by omega)
      have hgc : ∀ v, 0 ≤ v → v < 8 → cgc J v t = 0 := fun v x y => by unfold cgc; rw [if_neg (by omega)]
      refine tz_icmp_ne (pc := 59) (tgt := 69) dX4_weigh_59 (by decide) (by omega) (by omega) (fun h_59 => ?_) (fun h_59 => ?_)
      · refine tz_aload_n (pc := 69) dX4_weigh_69 rfl rfl ?_
        refine tz_fR (pc := 70) dX4_weigh_70 fl_X4_25 r_156_0 ?_
        refine tz_fR (pc := 73) dX4_weigh_73 fl_X4_63 r_6_0 ?_
        refine tz_fR (pc := 76) dX4_weigh_76 fl_X4_67 r_1_2 ?_
        refine tz_iload (pc := 79) dX4_weigh_79 rfl ?_
        refine tz_aL (pc := 81) (z := (J 7 t)) (v := (J 4 (J 7 t))) dX4_weigh_81 a_4 rfl (by omega) rfl (fun r_81 => ?_)
        refine tz_imul (pc := 82) (v := (-1) * (J 4 (J 7 t))) dX4_weigh_82 rfl ?_
        refine tz_iadd (pc := 83) (v := (J 156 2) + ((-1) * (J 4 (J 7 t)))) dX4_weigh_83 rfl ?_
        refine tz_pI (pc := 84) (kz := 2) dX4_weigh_84 fl_X4_15 i_156_2 rfl rfl (by omega) ?_
        refine tz_iconst (pc := 87) dX4_weigh_87 ?_
        refine tz_istore (pc := 88) (L2 := [_, _, _, _, _, _]) dX4_weigh_88 (by decide) rfl ?_
        have loop90 : ∀ (f9 : Nat) (i : Int) (J1 : zJ), ((3 - i).toNat) < f9 → (0 ≤ i ∧ i ≤ J 8 t) → (zOf (zbut [156, 157]) J1 J ∧ ∀ k, ¬ k = 2 → J1 156 k = J 156 k) → (J1 156 2 = J 156 2 - (xgw J sy wy t + sps (xwt J sy wy) (cag J) t i.toNat)) → (∀ v, 0 ≤ v → v < 8 → J1 157 v = J 157 v - sps (ccn J v) (cag J) t i.toNat) → tz_At l G M_X4_weigh (tb_rm (3 + 1 * (r9 + 1)) 0 0) none (tb_ZM G 0 0 (zQ n 0 (zqv (fun J' => (zOf (zbut [156, 157]) J' J ∧ ∀ k, ¬ k = 2 → J' 156 k = J 156 k) ∧ J' 156 2 = J 156 2 - xwt J sy wy t ∧ ∀ v, 0 ≤ v → v < 8 → J' 157 v = J 157 v - ccn J v t))) (zX n 0 zN)) 0 0 n J1 90 [some (.ref 156), some (zi t), some (zi (-1)), some (zi lv), some (zi (J 7 t)), some (zi i)] [] := by
          intro f9
          induction f9 with
          | zero => intro i J1 hm9; exact absurd hm9 (Nat.not_lt_zero _)
          | succ f9 ih90 =>
            intro i J1 hm90 hi f1 w1 b1
            refine tz_iload (pc := 90) dX4_weigh_90 rfl ?_
            refine tz_aload_n (pc := 92) dX4_weigh_92 rfl rfl ?_
            refine tz_fR (pc := 93) dX4_weigh_93 fl_X4_25 r_156_0 ?_
            refine tz_fR (pc := 96) dX4_weigh_96 fl_X4_72 r_6_2 ?_
            refine tz_iload_n (pc := 99) dX4_weigh_99 rfl rfl ?_
            refine tz_aL (pc := 100) (z := t) (v := (J 8 t)) dX4_weigh_100 a_8 rfl (by omega) (Eq.trans (congrFun (f1.1 8 rfl) t) rfl) (fun r_100 => ?_)
            refine tz_icmp_ge (pc := 101) (tgt := 128) dX4_weigh_101 (by decide) (by omega) (by omega) (fun h_101 => ?_) (fun h_101 => ?_)
            · exact tz_vret (pc := 128) dX4_weigh_128 rfl (Nat.le_of_ble_eq_true rfl) (Nat.le_of_ble_eq_true rfl) ⟨Nat.le_refl _, Nat.le_add_right _ _⟩ ⟨rfl, ⟨f1, by rw [w1]; unfold xwt; rw [hU, show (J 8 t).toNat = i.toNat by omega], fun v x y => by rw [b1 v x y]; unfold ccn; rw [hUv v, hgc v x y, show (J 8 t).toNat = i.toNat by omega]; show _ = J 157 v - (0 + sps (ccn J v) (cag J) t i.toNat); unfold ccn; omega⟩⟩
            · refine tz_aload_n (pc := 104) dX4_weigh_104 rfl rfl ?_
              refine tz_aload_n (pc := 105) dX4_weigh_105 rfl rfl ?_
              refine tz_fR (pc := 106) dX4_weigh_106 fl_X4_25 r_156_0 ?_
              refine tz_iload_n (pc := 109) dX4_weigh_109 rfl rfl ?_
              refine tz_iload (pc := 110) dX4_weigh_110 rfl ?_
              refine tz_cV (pc := 112) (c_arg hl n _ _ _ (by omega) (by omega) (by omega)) vl_X4_50 dX4_weigh_112 o_6 rfl rfl (Nat.le_of_ble_eq_true rfl) ⟨(show 0 + 1 ≤ 3 + 1 * (r9 + 1) by omega), (show 8 + (3 + 11) + 40 * (0) ≤ 40 * (3 + 1 * (r9 + 1)) by omega)⟩ rfl rfl (Nat.le_of_ble_eq_true rfl) (Nat.le_of_ble_eq_true rfl) (fun r9 J_112 hq9 => ?_)
              obtain ⟨z_112, rfl, hz_112, rfl, hv_112⟩ := hq9
              rw [f1.1 9 rfl] at hv_112
              obtain rfl : J 9 (t * 3 + i) = z_112 := hv_112
              refine tz_iload_n (pc := 115) dX4_weigh_115 rfl rfl ?_
              refine tz_iload_n (pc := 116) dX4_weigh_116 rfl rfl ?_
              refine tz_iconst (pc := 117) dX4_weigh_117 ?_
              refine tz_iadd (pc := 118) (v := lv + 1) dX4_weigh_118 rfl ?_
              have g1 := C.arg (t := t) (i := i) (by omega) (by omega) (by omega) (by omega)
              have sa := sV_arg C.td (xgw_rg (sy := sy) C hw) ht (i := i) (by omega)
              have sc := fun v => sV_arg C.td (cgc_rg (J := J) (v := v) (m := m)) ht (i := i) (by omega)
              have wa := xwt_rg (sy := sy) C hw (t := J 9 (t * 3 + i)) (by omega)
              have saw : 0 ≤ sps (xwt J sy wy) (cag J) t i.toNat ∧ xgw J sy wy t + sps (xwt J sy wy) (cag J) t i.toNat + xwt J sy wy (J 9 (t * 3 + i)) ≤ xwt J sy wy t := sa
              refine tz_cV (pc := 119) (ih _ _ _ (by omega) (by omega) m sy wy (C.of (fun c hc => f1.1 c (by simp [zbut]; omega))) (by omega) (by rw [f1.1 12 rfl]; omega) hw ⟨(f1.2 3 (by decide)).trans h3.1, (f1.2 4 (by decide)).trans h3.2⟩ (by rw [(xwt_of (sy := sy) (wy := wy) f1.1).1]; omega) (fun v x y => by have scv : 0 ≤ sps (ccn J v) (cag J) t i.toNat ∧ cgc J v t + sps (ccn J v) (cag J) t i.toNat + ccn J v (J 9 (t * 3 + i)) ≤ ccn J v t := sc v; have hg0 := cgc_rg (J := J) (v := v) (m := m) t ht.1 ht.2; have hv := hV v x y; have bv := b1 v x y; rw [(cwt_of f1.1).2]; omega) (by rw [f1.1 12 rfl]; omega)) vl_X4_59 dX4_weigh_119 o_156 rfl rfl (Nat.le_of_ble_eq_true rfl) ⟨(show (3 + 1 * r9) + 1 ≤ 3 + 1 * (r9 + 1) by omega), (show 8 + (6 + 11) + 40 * ((3 + 1 * r9)) ≤ 40 * (3 + 1 * (r9 + 1)) by omega)⟩ rfl rfl (Nat.le_of_ble_eq_true rfl) (Nat.le_of_ble_eq_true rfl) (fun r9 J_119 hq9 => ?_)
              obtain ⟨rfl, f2, w2, b2⟩ := hq9
              rw [(xwt_of (sy := sy) (wy := wy) f1.1).1] at w2
              rw [(cwt_of f1.1).2] at b2
              refine tz_iinc (pc := 122) (z := i + 1) (L2 := [_, _, _, _, _, _]) dX4_weigh_122 rfl (by omega) rfl ?_
              refine tz_goto (pc := 125) (tgt := 90) dX4_weigh_125 (by decide) ?_
              exact ih90 (i + 1) _ (by omega) (by omega) ⟨f2.1.tr f1.1, fun k hk => (f2.2 k hk).trans (f1.2 k hk)⟩ (by rw [sps_s hi.1, w2, w1]; show _ = J 156 2 - (xgw J sy wy t + (sps (xwt J sy wy) (cag J) t i.toNat + xwt J sy wy (J 9 (t * 3 + i)))); omega) (fun v x y => by rw [sps_s hi.1, b2 v x y, b1 v x y]; show _ = J 157 v - (sps (ccn J v) (cag J) t i.toNat + ccn J v (J 9 (t * 3 + i))); omega)
        exact loop90 _ 0 _ (Nat.lt_succ_self _) (by omega) ⟨zOf.up rfl zOf.rf, fun k hk => zup_ne hk⟩ (by rw [zup_at]; show _ = J 156 2 - (xgw J sy wy t + 0); omega) (fun v x y => by show J 157 v = J 157 v - 0; omega)
      · refine tz_aload_n (pc := 62) dX4_weigh_62 rfl rfl ?_
        refine tz_fI (pc := 63) (kz := 4) (v := wy) dX4_weigh_63 fl_X4_22 i_156_4 rfl h3.2 (fun r_63 => ?_)
        refine tz_goto (pc := 66) (tgt := 82) dX4_weigh_66 (by decide) ?_
        refine tz_imul (pc := 82) (v := (-1) * wy) dX4_weigh_82 rfl ?_
        refine tz_iadd (pc := 83) (v := (J 156 2) + ((-1) * wy)) dX4_weigh_83 rfl ?_
        refine tz_pI (pc := 84) (kz := 2) dX4_weigh_84 fl_X4_15 i_156_2 rfl rfl (by omega) ?_
        refine tz_iconst (pc := 87) dX4_weigh_87 ?_
        refine tz_istore (pc := 88) (L2 := [_, _, _, _, _, _]) dX4_weigh_88 (by decide) rfl ?_
        have loop90 : ∀ (f9 : Nat) (i : Int) (J1 : zJ), ((3 - i).toNat) < f9 → (0 ≤ i ∧ i ≤ J 8 t) → (zOf (zbut [156, 157]) J1 J ∧ ∀ k, ¬ k = 2 → J1 156 k = J 156 k) → (J1 156 2 = J 156 2 - (xgw J sy wy t + sps (xwt J sy wy) (cag J) t i.toNat)) → (∀ v, 0 ≤ v → v < 8 → J1 157 v = J 157 v - sps (ccn J v) (cag J) t i.toNat) → tz_At l G M_X4_weigh (tb_rm (3 + 1 * (r9 + 1)) 0 0) none (tb_ZM G 0 0 (zQ n 0 (zqv (fun J' => (zOf (zbut [156, 157]) J' J ∧ ∀ k, ¬ k = 2 → J' 156 k = J 156 k) ∧ J' 156 2 = J 156 2 - xwt J sy wy t ∧ ∀ v, 0 ≤ v → v < 8 → J' 157 v = J 157 v - ccn J v t))) (zX n 0 zN)) 0 0 n J1 90 [some (.ref 156), some (zi t), some (zi (-1)), some (zi lv), some (zi (J 7 t)), some (zi i)] [] := by
          intro f9
          induction f9 with
          | zero => intro i J1 hm9; exact absurd hm9 (Nat.not_lt_zero _)
          | succ f9 ih90 =>
            intro i J1 hm90 hi f1 w1 b1
            refine tz_iload (pc := 90) dX4_weigh_90 rfl ?_
            refine tz_aload_n (pc := 92) dX4_weigh_92 rfl rfl ?_
            refine tz_fR (pc := 93) dX4_weigh_93 fl_X4_25 r_156_0 ?_
            refine tz_fR (pc := 96) dX4_weigh_96 fl_X4_72 r_6_2 ?_
            refine tz_iload_n (pc := 99) dX4_weigh_99 rfl rfl ?_
            refine tz_aL (pc := 100) (z := t) (v := (J 8 t)) dX4_weigh_100 a_8 rfl (by omega) (Eq.trans (congrFun (f1.1 8 rfl) t) rfl) (fun r_100 => ?_)
            refine tz_icmp_ge (pc := 101) (tgt := 128) dX4_weigh_101 (by decide) (by omega) (by omega) (fun h_101 => ?_) (fun h_101 => ?_)
            · exact tz_vret (pc := 128) dX4_weigh_128 rfl (Nat.le_of_ble_eq_true rfl) (Nat.le_of_ble_eq_true rfl) ⟨Nat.le_refl _, Nat.le_add_right _ _⟩ ⟨rfl, ⟨f1, by rw [w1]; unfold xwt; rw [hU, show (J 8 t).toNat = i.toNat by omega], fun v x y => by rw [b1 v x y]; unfold ccn; rw [hUv v, hgc v x y, show (J 8 t).toNat = i.toNat by omega]; show _ = J 157 v - (0 + sps (ccn J v) (cag J) t i.toNat); unfold ccn; omega⟩⟩
            · refine tz_aload_n (pc := 104) dX4_weigh_104 rfl rfl ?_
              refine tz_aload_n (pc := 105) dX4_weigh_105 rfl rfl ?_
              refine tz_fR (pc := 106) dX4_weigh_106 fl_X4_25 r_156_0 ?_
              refine tz_iload_n (pc := 109) dX4_weigh_109 rfl rfl ?_
              refine tz_iload (pc := 110) dX4_weigh_110 rfl ?_
              refine tz_cV (pc := 112) (c_arg hl n _ _ _ (by omega) (by omega) (by omega)) vl_X4_50 dX4_weigh_112 o_6 rfl rfl (Nat.le_of_ble_eq_true rfl) ⟨(show 0 + 1 ≤ 3 + 1 * (r9 + 1) by omega), (show 8 + (3 + 11) + 40 * (0) ≤ 40 * (3 + 1 * (r9 + 1)) by omega)⟩ rfl rfl (Nat.le_of_ble_eq_true rfl) (Nat.le_of_ble_eq_true rfl) (fun r9 J_112 hq9 => ?_)
              obtain ⟨z_112, rfl, hz_112, rfl, hv_112⟩ := hq9
              rw [f1.1 9 rfl] at hv_112
              obtain rfl : J 9 (t * 3 + i) = z_112 := hv_112
              refine tz_iload_n (pc := 115) dX4_weigh_115 rfl rfl ?_
              refine tz_iload_n (pc := 116) dX4_weigh_116 rfl rfl ?_
              refine tz_iconst (pc := 117) dX4_weigh_117 ?_
              refine tz_iadd (pc := 118) (v := lv + 1) dX4_weigh_118 rfl ?_
              have g1 := C.arg (t := t) (i := i) (by omega) (by omega) (by omega) (by omega)
              have sa := sV_arg C.td (xgw_rg (sy := sy) C hw) ht (i := i) (by omega)
              have sc := fun v => sV_arg C.td (cgc_rg (J := J) (v := v) (m := m)) ht (i := i) (by omega)
              have wa := xwt_rg (sy := sy) C hw (t := J 9 (t * 3 + i)) (by omega)
              have saw : 0 ≤ sps (xwt J sy wy) (cag J) t i.toNat ∧ xgw J sy wy t + sps (xwt J sy wy) (cag J) t i.toNat + xwt J sy wy (J 9 (t * 3 + i)) ≤ xwt J sy wy t := sa
              refine tz_cV (pc := 119) (ih _ _ _ (by omega) (by omega) m sy wy (C.of (fun c hc => f1.1 c (by simp [zbut]; omega))) (by omega) (by rw [f1.1 12 rfl]; omega) hw ⟨(f1.2 3 (by decide)).trans h3.1, (f1.2 4 (by decide)).trans h3.2⟩ (by rw [(xwt_of (sy := sy) (wy := wy) f1.1).1]; omega) (fun v x y => by have scv : 0 ≤ sps (ccn J v) (cag J) t i.toNat ∧ cgc J v t + sps (ccn J v) (cag J) t i.toNat + ccn J v (J 9 (t * 3 + i)) ≤ ccn J v t := sc v; have hg0 := cgc_rg (J := J) (v := v) (m := m) t ht.1 ht.2; have hv := hV v x y; have bv := b1 v x y; rw [(cwt_of f1.1).2]; omega) (by rw [f1.1 12 rfl]; omega)) vl_X4_59 dX4_weigh_119 o_156 rfl rfl (Nat.le_of_ble_eq_true rfl) ⟨(show (3 + 1 * r9) + 1 ≤ 3 + 1 * (r9 + 1) by omega), (show 8 + (6 + 11) + 40 * ((3 + 1 * r9)) ≤ 40 * (3 + 1 * (r9 + 1)) by omega)⟩ rfl rfl (Nat.le_of_ble_eq_true rfl) (Nat.le_of_ble_eq_true rfl) (fun r9 J_119 hq9 => ?_)
              obtain ⟨rfl, f2, w2, b2⟩ := hq9
              rw [(xwt_of (sy := sy) (wy := wy) f1.1).1] at w2
              rw [(cwt_of f1.1).2] at b2
              refine tz_iinc (pc := 122) (z := i + 1) (L2 := [_, _, _, _, _, _]) dX4_weigh_122 rfl (by omega) rfl ?_
              refine tz_goto (pc := 125) (tgt := 90) dX4_weigh_125 (by decide) ?_
              exact ih90 (i + 1) _ (by omega) (by omega) ⟨f2.1.tr f1.1, fun k hk => (f2.2 k hk).trans (f1.2 k hk)⟩ (by rw [sps_s hi.1, w2, w1]; show _ = J 156 2 - (xgw J sy wy t + (sps (xwt J sy wy) (cag J) t i.toNat + xwt J sy wy (J 9 (t * 3 + i)))); omega) (fun v x y => by rw [sps_s hi.1, b2 v x y, b1 v x y]; show _ = J 157 v - (sps (ccn J v) (cag J) t i.toNat + ccn J v (J 9 (t * 3 + i))); omega)
        exact loop90 _ 0 _ (Nat.lt_succ_self _) (by omega) ⟨zOf.up rfl zOf.rf, fun k hk => zup_ne hk⟩ (by rw [zup_at]; show _ = J 156 2 - (xgw J sy wy t + 0); omega) (fun v x y => by show J 157 v = J 157 v - 0; omega)
    · refine tz_aload_n (pc := 23) dX4_weigh_23 rfl rfl ?_
      refine tz_fR (pc := 24) dX4_weigh_24 fl_X4_9 r_156_1 ?_
      refine tz_iload (pc := 27) dX4_weigh_27 rfl ?_
      refine tz_iconst (pc := 29) dX4_weigh_29 ?_
      refine tz_ixor (pc := 30) (v := -1 - J 7 t) dX4_weigh_30 (z_nn (by omega)) ?_
      refine tz_dup2 (pc := 31) dX4_weigh_31 rfl rfl ?_
      have hv9 := hV (-1 - J 7 t) (by omega) (by omega)
      have hc9 := ccn_rg (v := -1 - J 7 t) C ht
      have hw9 : xwt J sy wy t = 1 := by unfold xwt; rw [hU, ha.2.1 (by omega)]; show xgw J sy wy t + 0 = 1; unfold xgw; rw [if_pos (by omega)]; omega
      have hx9 : ∀ v, ccn J v t = if J 7 t = -1 - v then 1 else 0 := fun v => by unfold ccn; rw [hUv v, ha.2.1 (by omega)]; show cgc J v t + 0 = _; unfold cgc; omega
      have hy9 := hx9 (-1 - J 7 t)
      rw [if_pos (by omega)] at hy9
      refine tz_aL (pc := 32) (z := (-1 - J 7 t)) (v := (J 157 (-1 - J 7 t))) dX4_weigh_32 a_157 rfl (by omega) rfl (fun r_32 => ?_)
      refine tz_iload_n (pc := 33) dX4_weigh_33 rfl rfl ?_
      refine tz_iadd (pc := 34) (v := (J 157 (-1 - J 7 t)) + (-1)) dX4_weigh_34 rfl ?_
      refine tz_aS (pc := 35) (z := (-1 - J 7 t)) dX4_weigh_35 a_157 rfl (by omega) (by omega) ?_
      refine tz_aload_n (pc := 36) dX4_weigh_36 rfl rfl ?_
      refine tz_dup (pc := 37) dX4_weigh_37 rfl ?_
      refine tz_fI (pc := 38) (kz := 2) (v := (J 156 2)) dX4_weigh_38 fl_X4_15 i_156_2 rfl rfl (fun r_38 => ?_)
      refine tz_iload_n (pc := 41) dX4_weigh_41 rfl rfl ?_
      refine tz_iadd (pc := 42) (v := (J 156 2) + (-1)) dX4_weigh_42 rfl ?_
      refine tz_pI (pc := 43) (kz := 2) dX4_weigh_43 fl_X4_15 i_156_2 rfl rfl (by omega) ?_
      exact tz_vret (pc := 46) dX4_weigh_46 rfl (Nat.le_of_ble_eq_true rfl) (Nat.le_of_ble_eq_true rfl) ⟨Nat.le_refl _, Nat.le_add_right _ _⟩ ⟨rfl, ⟨⟨zOf.up rfl (zOf.up rfl zOf.rf), fun k hk => (zup_ne hk).trans rfl⟩, by rw [zup_at]; omega, fun v x y => by show (if v = -1 - J 7 t then J 157 (-1 - J 7 t) + (-1) else J 157 v) = _; rw [hx9 v]; by_cases e : v = -1 - J 7 t; rw [if_pos e, if_pos (by omega), ← e]; omega; rw [if_neg e, if_neg (by omega)]; omega⟩⟩

theorem t_weighN {l : Launch} {G : tb_G} (hl : l.stackTraces = false) (n : Nat) (J : zJ) (t : Int) (hr_t : -2147483648 ≤ t ∧ t < 2147483648) (m sy wy : Int) (C : CT J m) (ht : 0 ≤ t ∧ t < m) (hw : 1 ≤ wy ∧ wy ≤ 9) (h3 : J 156 3 = sy ∧ J 156 4 = wy) (hB : -10000 + xwt J sy wy t ≤ J 156 2 ∧ J 156 2 ≤ 10000 - xwt J sy wy t) (hV : ∀ v, 0 ≤ v → v < 8 → -10000 + ccn J v t ≤ J 157 v ∧ J 157 v ≤ 10000 - ccn J v t) : tz_Ok l G M_X4_weigh 10 0 0 [.ref 156, zi t, zi (-1), zi 1] n J (zqv (fun J' => (zOf (zbut [156, 157]) J' J ∧ ∀ k, ¬ k = 2 → J' 156 k = J 156 k) ∧ J' 156 2 = J 156 2 - xwt J sy wy t ∧ ∀ v, 0 ≤ v → v < 8 → J' 157 v = J 157 v - ccn J v t)) zN := t_weighNR hl n 7 J t 1 hr_t (by decide) m sy wy C ht (by have := (C.nums ht.1 ht.2).2.2; omega) hw h3 hB hV (by have := (C.nums ht.1 ht.2).2.2; omega)
set_option maxHeartbeats 4000000 in
set_option maxRecDepth 100000 in
theorem t_weighBoth {l : Launch} {G : tb_G} (hl : l.stackTraces = false) (n : Nat) (J : zJ) (s : Int) (t : Int) (hr_s : -2147483648 ≤ s ∧ s < 2147483648) (hr_t : -2147483648 ≤ t ∧ t < 2147483648) (m sy wy : Int) (C : CT J m) (hs : 0 ≤ s ∧ s < m) (ht : 0 ≤ t ∧ t < m) (hw : 1 ≤ wy ∧ wy ≤ 9) (h3 : J 156 3 = sy ∧ J 156 4 = wy) : tz_Ok l G M_X4_weighBoth 11 0 0 [.ref 156, zi s, zi t] n J (zqv (fun J' => (zOf (zbut [156, 157]) J' J ∧ ∀ k, ¬ k = 2 → J' 156 k = J 156 k) ∧ J' 156 2 = xwt J sy wy s - xwt J sy wy t ∧ ∀ v, 0 ≤ v → v < 8 → J' 157 v = ccn J v s - ccn J v t)) zN := by
  refine tz_Ok.of hl (by decide +kernel) rfl (tb_c1 rfl) (Nat.le_of_ble_eq_true rfl) ?_
  show tz_At l G M_X4_weighBoth (tb_rm 11 0 0) none (tb_ZM G 0 0 (zQ n 0 (zqv (fun J' => (zOf (zbut [156, 157]) J' J ∧ ∀ k, ¬ k = 2 → J' 156 k = J 156 k) ∧ J' 156 2 = xwt J sy wy s - xwt J sy wy t ∧ ∀ v, 0 ≤ v → v < 8 → J' 157 v = ccn J v s - ccn J v t))) (zX n 0 zN)) 0 0 n J 0 [some (.ref 156), some (zi s), some (zi t)] []
  have hm := C.told
  have hws := xwt_rg (sy := sy) C hw hs
  have hwt := xwt_rg (sy := sy) C hw ht
  have f0 : zOf (zbut [156, 157]) (zup (zfl J 157 8 0) 156 2 0) J := zOf.up rfl (zOf.fl rfl zOf.rf)
  have z0 : ∀ v, 0 ≤ v → v < 8 → (zup (zfl J 157 8 0) 156 2 0) 157 v = 0 := fun v x y => by show zfl J 157 8 0 157 v = 0; exact zfl_in y
  refine tz_aload_n (pc := 0) dX4_weighBoth_0 rfl rfl ?_
  refine tz_fR (pc := 1) dX4_weighBoth_1 fl_X4_9 r_156_1 ?_
  refine tz_iconst (pc := 4) dX4_weighBoth_4 ?_
  refine tz_cS (pc := 5) (zJ_fill hl n _ 157 _ 8 0 (by decide) a_157 rfl) sl_X4_53 dX4_weighBoth_5 rfl rfl (Nat.le_of_ble_eq_true rfl) ⟨(Nat.le_of_ble_eq_true rfl), (Nat.le_of_ble_eq_true rfl)⟩ rfl rfl (Nat.le_of_ble_eq_true rfl) (Nat.le_of_ble_eq_true rfl) (fun r9 J_5 hq9 => ?_)
  obtain ⟨rfl, rfl⟩ := hq9
  refine tz_aload_n (pc := 8) dX4_weighBoth_8 rfl rfl ?_
  refine tz_iconst (pc := 9) dX4_weighBoth_9 ?_
  refine tz_pI (pc := 10) (kz := 2) dX4_weighBoth_10 fl_X4_15 i_156_2 rfl rfl (by decide) ?_
  refine tz_aload_n (pc := 13) dX4_weighBoth_13 rfl rfl ?_
  refine tz_iload_n (pc := 14) dX4_weighBoth_14 rfl rfl ?_
  refine tz_iconst (pc := 15) dX4_weighBoth_15 ?_
  refine tz_iconst (pc := 16) dX4_weighBoth_16 ?_
  refine tz_cV (pc := 17) (t_weighP hl n _ _ (by omega) m sy wy (C.of (fun c hc => f0 c (by simp [zbut]; omega))) hs hw h3 (by rw [(xwt_of (sy := sy) (wy := wy) f0).1]; show _ ≤ (0 : Int) ∧ (0 : Int) ≤ _; omega) (fun v x y => by rw [(cwt_of f0).2, z0 v x y]; have := ccn_rg (v := v) C hs; omega)) vl_X4_59 dX4_weighBoth_17 o_156 rfl rfl (Nat.le_of_ble_eq_true rfl) ⟨(Nat.le_of_ble_eq_true rfl), (Nat.le_of_ble_eq_true rfl)⟩ rfl rfl (Nat.le_of_ble_eq_true rfl) (Nat.le_of_ble_eq_true rfl) (fun r9 J_17 hq9 => ?_)
  obtain ⟨rfl, f1, w1, b1⟩ := hq9
  rw [(xwt_of (sy := sy) (wy := wy) f0).1] at w1
  rw [(cwt_of f0).2] at b1
  have f10 : zOf (zbut [156, 157]) J_17 J := f1.1.tr f0
  have w10 : J_17 156 2 = xwt J sy wy s := by rw [w1]; show (0 : Int) + _ = _; omega
  have b10 : ∀ v, 0 ≤ v → v < 8 → J_17 157 v = ccn J v s := fun v x y => by rw [b1 v x y, z0 v x y]; omega
  refine tz_aload_n (pc := 20) dX4_weighBoth_20 rfl rfl ?_
  refine tz_iload_n (pc := 21) dX4_weighBoth_21 rfl rfl ?_
  refine tz_iconst (pc := 22) dX4_weighBoth_22 ?_
  refine tz_iconst (pc := 23) dX4_weighBoth_23 ?_
  refine tz_cV (pc := 24) (t_weighN hl n _ _ (by omega) m sy wy (C.of (fun c hc => f10 c (by simp [zbut]; omega))) ht hw ⟨(f1.2 3 (by decide)).trans h3.1, (f1.2 4 (by decide)).trans h3.2⟩ (by rw [(xwt_of (sy := sy) (wy := wy) f10).1, w10]; omega) (fun v x y => by rw [(cwt_of f10).2, b10 v x y]; have := ccn_rg (v := v) C hs; have := ccn_rg (v := v) C ht; omega)) vl_X4_59 dX4_weighBoth_24 o_156 rfl rfl (Nat.le_of_ble_eq_true rfl) ⟨(Nat.le_of_ble_eq_true rfl), (Nat.le_of_ble_eq_true rfl)⟩ rfl rfl (Nat.le_of_ble_eq_true rfl) (Nat.le_of_ble_eq_true rfl) (fun r9 J_24 hq9 => ?_)
  obtain ⟨rfl, f2, w2, b2⟩ := hq9
  rw [(xwt_of (sy := sy) (wy := wy) f10).1, w10] at w2
  rw [(cwt_of f10).2] at b2
  exact tz_vret (pc := 27) dX4_weighBoth_27 rfl (Nat.le_of_ble_eq_true rfl) (Nat.le_of_ble_eq_true rfl) ⟨Nat.le_refl _, Nat.le_add_right _ _⟩ ⟨rfl, ⟨⟨f2.1.tr f10, fun k hk => (f2.2 k hk).trans ((f1.2 k hk).trans (zup_ne hk))⟩, w2, fun v x y => by rw [b2 v x y, b10 v x y]⟩⟩

set_option maxHeartbeats 4000000 in
set_option maxRecDepth 100000 in
theorem t_greater {l : Launch} {G : tb_G} (hl : l.stackTraces = false) (n : Nat) (J : zJ) (s : Int) (t : Int) (hr_s : -2147483648 ≤ s ∧ s < 2147483648) (hr_t : -2147483648 ≤ t ∧ t < 2147483648) (m sy wy : Int) (C : CT J m) (hs : 0 ≤ s ∧ s < m) (ht : 0 ≤ t ∧ t < m) (hw : 1 ≤ wy ∧ wy ≤ 9) (h3 : J 156 3 = sy ∧ J 156 4 = wy) : tz_Ok l G M_X4_isGreater 12 0 0 [.ref 156, zi s, zi t] n J (zqi (fun z J' => ((z = 1 ∧ xgt J sy wy 6 s t) ∨ (z = 0 ∧ ¬ xgt J sy wy 6 s t)) ∧ (zOf (zbut [156, 157]) J' J ∧ ∀ k, ¬ k = 2 → J' 156 k = J 156 k))) zN := by
  refine tz_Ok.of hl (by decide +kernel) rfl (tb_c1 rfl) (Nat.le_of_ble_eq_true rfl) ?_
  show tz_At l G M_X4_isGreater (tb_rm 12 0 0) none (tb_ZM G 0 0 (zQ n 0 (zqi (fun z J' => ((z = 1 ∧ xgt J sy wy 6 s t) ∨ (z = 0 ∧ ¬ xgt J sy wy 6 s t)) ∧ (zOf (zbut [156, 157]) J' J ∧ ∀ k, ¬ k = 2 → J' 156 k = J 156 k)))) (zX n 0 zN)) 0 0 n J 0 [some (.ref 156), some (zi s), some (zi t), none, none, none, none] []
  have hm := C.told
  have hn0 := (C.nums hs.1 hs.2).2.2
  refine tz_iload_n (pc := 0) dX4_isGreater_0 rfl rfl ?_
  refine tz_istore_n (pc := 1) (L2 := [_, _, _, _, _, _, _]) dX4_isGreater_1 rfl (by decide) rfl ?_
  refine tz_iload_n (pc := 2) dX4_isGreater_2 rfl rfl ?_
  refine tz_istore (pc := 3) (L2 := [_, _, _, _, _, _, _]) dX4_isGreater_3 (by decide) rfl ?_
  refine tz_iconst (pc := 5) dX4_isGreater_5 ?_
  refine tz_istore (pc := 6) (L2 := [_, _, _, _, _, _, _]) dX4_isGreater_6 (by decide) rfl ?_
  have loop8 : ∀ (f9 : Nat) (a : Int) (b : Int) (k : Int) (d6 : Option Value) (J1 : zJ), ((6 - k).toNat) < f9 → (0 ≤ k ∧ k ≤ 6) → (0 ≤ a ∧ a < m) → (0 ≤ b ∧ b < m) → (J 12 a ≤ 6 - k) → (zOf (zbut [156, 157]) J1 J ∧ ∀ k, ¬ k = 2 → J1 156 k = J 156 k) → (xgt J sy wy 6 s t ↔ xgt J sy wy (6 - k).toNat a b) → tz_At l G M_X4_isGreater (tb_rm 12 0 0) none (tb_ZM G 0 0 (zQ n 0 (zqi (fun z J' => ((z = 1 ∧ xgt J sy wy 6 s t) ∨ (z = 0 ∧ ¬ xgt J sy wy 6 s t)) ∧ (zOf (zbut [156, 157]) J' J ∧ ∀ k, ¬ k = 2 → J' 156 k = J 156 k)))) (zX n 0 zN)) 0 0 n J1 8 [some (.ref 156), some (zi s), some (zi t), some (zi a), some (zi b), some (zi k), d6] [] := by
    intro f9
    induction f9 with
    | zero => intro a b k d6 J1 hm9; exact absurd hm9 (Nat.not_lt_zero _)
    | succ f9 ih8 =>
      intro a b k d6 J1 hm8 hk ha hb hd fr hg
      refine tz_iload (pc := 8) dX4_isGreater_8 rfl ?_
      refine tz_bipush (pc := 10) dX4_isGreater_10 (by decide) ?_
      refine tz_icmp_ge (pc := 12) (tgt := 167) dX4_isGreater_12 (by decide) (by omega) (by decide) (fun h_12 => ?_) (fun h_12 => ?_)
      · refine tz_iconst (pc := 167) dX4_isGreater_167 ?_
        exact tz_zret (pc := 168) (z := 0) dX4_isGreater_168 rfl (Or.inl rfl) (Nat.le_of_ble_eq_true rfl) (Nat.le_of_ble_eq_true rfl) ⟨Nat.le_refl _, Nat.le_add_right _ _⟩ ⟨_, rfl, (by decide), ⟨Or.inr ⟨rfl, fun e => by have e1 := hg.1 e; rw [show (6 - k).toNat = 0 by omega] at e1; exact e1⟩, fr⟩⟩
      · refine tz_iload_n (pc := 15) dX4_isGreater_15 rfl rfl ?_
        refine tz_iload (pc := 16) dX4_isGreater_16 rfl ?_
        refine tz_icmp_eq (pc := 18) (tgt := 167) dX4_isGreater_18 (by decide) (by omega) (by omega) (fun h_18 => ?_) (fun h_18 => ?_)
        · refine tz_iconst (pc := 167) dX4_isGreater_167 ?_
          exact tz_zret (pc := 168) (z := 0) dX4_isGreater_168 rfl (Or.inl rfl) (Nat.le_of_ble_eq_true rfl) (Nat.le_of_ble_eq_true rfl) ⟨Nat.le_refl _, Nat.le_add_right _ _⟩ ⟨_, rfl, (by decide), ⟨Or.inr ⟨rfl, fun e => by have e1 := hg.1 e; rw [show a = b by omega] at e1; exact gtP_rf e1⟩, fr⟩⟩
        · refine tz_aload_n (pc := 21) dX4_isGreater_21 rfl rfl ?_
          refine tz_iload_n (pc := 22) dX4_isGreater_22 rfl rfl ?_
          refine tz_iload (pc := 23) dX4_isGreater_23 rfl ?_
          have ne9 : ¬ a = b := by omega
          have hn9 := (C.nums ha.1 ha.2).2.2
          have hk9 : (6 - k).toNat = (5 - k).toNat + 1 := by omega
          refine tz_cV (pc := 25) (t_weighBoth hl n _ _ _ (by omega) (by omega) m sy wy (C.of (fun c hc => fr.1 c (by simp [zbut]; omega))) ha hb hw ⟨(fr.2 3 (by decide)).trans h3.1, (fr.2 4 (by decide)).trans h3.2⟩) vl_X4_29 dX4_isGreater_25 o_156 rfl rfl (Nat.le_of_ble_eq_true rfl) ⟨(Nat.le_of_ble_eq_true rfl), (Nat.le_of_ble_eq_true rfl)⟩ rfl rfl (Nat.le_of_ble_eq_true rfl) (Nat.le_of_ble_eq_true rfl) (fun r9 J_25 hq9 => ?_)
          obtain ⟨rfl, f2, w2, b2⟩ := hq9
          rw [(xwt_of (sy := sy) (wy := wy) fr.1).1] at w2
          rw [(cwt_of fr.1).2] at b2
          have f20 : zOf (zbut [156, 157]) J_25 J ∧ ∀ k, ¬ k = 2 → J_25 156 k = J 156 k := ⟨f2.1.tr fr.1, fun k hk => (f2.2 k hk).trans (fr.2 k hk)⟩
          have e7 : J_25 7 = J 7 := f20.1 7 rfl
          have e9 : J_25 9 = J 9 := f20.1 9 rfl
          have hA := C.ar ha.1 ha.2
          have hAb := C.ar hb.1 hb.2
          refine tz_aload_n (pc := 28) dX4_isGreater_28 rfl rfl ?_
          refine tz_cV (pc := 29) (x_lacks hl n _) vl_X4_33 dX4_isGreater_29 o_156 rfl rfl (Nat.le_of_ble_eq_true rfl) ⟨(Nat.le_of_ble_eq_true rfl), (Nat.le_of_ble_eq_true rfl)⟩ rfl rfl (Nat.le_of_ble_eq_true rfl) (Nat.le_of_ble_eq_true rfl) (fun r9 J_29 hq9 => ?_)
          obtain ⟨zl9, rfl, hz_29, rfl, hz⟩ := hq9
          rcases hz with ⟨rfl, lk9⟩ | ⟨rfl, lk8⟩
          · refine tz_if_neT (pc := 32) (tgt := 42) (by decide) dX4_isGreater_32 (by decide) (by decide) ?_
            refine tz_iconst (pc := 42) dX4_isGreater_42 ?_
            exact tz_zret (pc := 43) (z := 0) dX4_isGreater_43 rfl (Or.inl rfl) (Nat.le_of_ble_eq_true rfl) (Nat.le_of_ble_eq_true rfl) ⟨Nat.le_refl _, Nat.le_add_right _ _⟩ ⟨_, rfl, (by decide), ⟨Or.inr ⟨rfl, fun e => by have e1 := hg.1 e; rw [hk9] at e1; first | (obtain ⟨v, q1, q2⟩ := lk9; have q3 := e1.2.1 v q1.1 q1.2; have q4 := b2 v q1.1 q1.2; omega) | (rcases e1.2.2 with q | q; omega; have := q.1; omega)⟩, f20⟩⟩
          · refine tz_if_neF (pc := 32) (tgt := 42) (by decide) dX4_isGreater_32 (by decide) (by decide) ?_
            have hv9 : ∀ v, 0 ≤ v → v < 8 → ccn J v b ≤ ccn J v a := fun v x y => by have q1 := lk8 v x y; have q2 := b2 v x y; omega
            refine tz_aload_n (pc := 35) dX4_isGreater_35 rfl rfl ?_
            refine tz_fI (pc := 36) (kz := 2) (v := (J_25 156 2)) dX4_isGreater_36 fl_X4_15 i_156_2 rfl rfl (fun r_36 => ?_)
            refine tz_if_ge (pc := 39) (tgt := 44) dX4_isGreater_39 (by decide) (by omega) (fun h_39 => ?_) (fun h_39 => ?_)
            · refine tz_aload_n (pc := 44) dX4_isGreater_44 rfl rfl ?_
              refine tz_fI (pc := 45) (kz := 2) (v := (J_25 156 2)) dX4_isGreater_45 fl_X4_15 i_156_2 rfl rfl (fun r_45 => ?_)
              refine tz_if_gt (pc := 48) (tgt := 63) dX4_isGreater_48 (by decide) (by omega) (fun h_48 => ?_) (fun h_48 => ?_)
              · refine tz_iconst (pc := 63) dX4_isGreater_63 ?_
                exact tz_zret (pc := 64) (z := 1) dX4_isGreater_64 rfl (Or.inr rfl) (Nat.le_of_ble_eq_true rfl) (Nat.le_of_ble_eq_true rfl) ⟨Nat.le_refl _, Nat.le_add_right _ _⟩ ⟨_, rfl, (by decide), ⟨Or.inl ⟨rfl, hg.2 (by rw [hk9]; exact ⟨ne9, hv9, by first | exact Or.inl (by omega) | exact Or.inr ⟨by omega, Or.inl (by omega)⟩⟩)⟩, f20⟩⟩
              · refine tz_aload_n (pc := 51) dX4_isGreater_51 rfl rfl ?_
                refine tz_fR (pc := 52) dX4_isGreater_52 fl_X4_25 r_156_0 ?_
                refine tz_iload (pc := 55) dX4_isGreater_55 rfl ?_
                refine tz_cV (pc := 57) (c_isVar hl n _ _ (by omega) (by omega)) vl_X4_37 dX4_isGreater_57 o_6 rfl rfl (Nat.le_of_ble_eq_true rfl) ⟨(Nat.le_of_ble_eq_true rfl), (Nat.le_of_ble_eq_true rfl)⟩ rfl rfl (Nat.le_of_ble_eq_true rfl) (Nat.le_of_ble_eq_true rfl) (fun r9 J_57 hq9 => ?_)
                obtain ⟨z_57, rfl, hz_57, rfl, hv_57⟩ := hq9
                rw [e7] at hv_57
                obtain rfl : (if J 7 b < 0 then 1 else 0) = z_57 := hv_57
                by_cases hw_60 : J 7 b < 0
                · rw [show (if J 7 b < 0 then 1 else 0 : Int) = 1 from if_pos hw_60]
                  refine tz_if_eqF (pc := 60) (tgt := 65) (by decide) dX4_isGreater_60 (by decide) (by decide) ?_
                  refine tz_iconst (pc := 63) dX4_isGreater_63 ?_
                  exact tz_zret (pc := 64) (z := 1) dX4_isGreater_64 rfl (Or.inr rfl) (Nat.le_of_ble_eq_true rfl) (Nat.le_of_ble_eq_true rfl) ⟨Nat.le_refl _, Nat.le_add_right _ _⟩ ⟨_, rfl, (by decide), ⟨Or.inl ⟨rfl, hg.2 (by rw [hk9]; exact ⟨ne9, hv9, by first | exact Or.inl (by omega) | exact Or.inr ⟨by omega, Or.inl (by omega)⟩⟩)⟩, f20⟩⟩
                · rw [show (if J 7 b < 0 then 1 else 0 : Int) = 0 from if_neg hw_60]
                  refine tz_if_eqT (pc := 60) (tgt := 65) (by decide) dX4_isGreater_60 (by decide) (by decide) ?_
                  refine tz_aload_n (pc := 65) dX4_isGreater_65 rfl rfl ?_
                  refine tz_fR (pc := 66) dX4_isGreater_66 fl_X4_25 r_156_0 ?_
                  refine tz_iload_n (pc := 69) dX4_isGreater_69 rfl rfl ?_
                  refine tz_cV (pc := 70) (c_isVar hl n _ _ (by omega) (by omega)) vl_X4_37 dX4_isGreater_70 o_6 rfl rfl (Nat.le_of_ble_eq_true rfl) ⟨(Nat.le_of_ble_eq_true rfl), (Nat.le_of_ble_eq_true rfl)⟩ rfl rfl (Nat.le_of_ble_eq_true rfl) (Nat.le_of_ble_eq_true rfl) (fun r9 J_70 hq9 => ?_)
                  obtain ⟨z_70, rfl, hz_70, rfl, hv_70⟩ := hq9
                  rw [e7] at hv_70
                  obtain rfl : (if J 7 a < 0 then 1 else 0) = z_70 := hv_70
                  by_cases hw_73 : J 7 a < 0
                  · rw [show (if J 7 a < 0 then 1 else 0 : Int) = 1 from if_pos hw_73]
                    refine tz_if_eqF (pc := 73) (tgt := 78) (by decide) dX4_isGreater_73 (by decide) (by decide) ?_
                    refine tz_iconst (pc := 76) dX4_isGreater_76 ?_
                    exact tz_zret (pc := 77) (z := 0) dX4_isGreater_77 rfl (Or.inl rfl) (Nat.le_of_ble_eq_true rfl) (Nat.le_of_ble_eq_true rfl) ⟨Nat.le_refl _, Nat.le_add_right _ _⟩ ⟨_, rfl, (by decide), ⟨Or.inr ⟨rfl, fun e => by have e1 := hg.1 e; rw [hk9] at e1; rcases e1.2.2 with q | ⟨_, q | ⟨q1, q2, q3⟩⟩; omega; omega; omega⟩, f20⟩⟩
                  · rw [show (if J 7 a < 0 then 1 else 0 : Int) = 0 from if_neg hw_73]
                    refine tz_if_eqT (pc := 73) (tgt := 78) (by decide) dX4_isGreater_73 (by decide) (by decide) ?_
                    refine tz_aload_n (pc := 78) dX4_isGreater_78 rfl rfl ?_
                    refine tz_fR (pc := 79) dX4_isGreater_79 fl_X4_25 r_156_0 ?_
                    refine tz_fR (pc := 82) dX4_isGreater_82 fl_X4_43 r_6_1 ?_
                    refine tz_iload_n (pc := 85) dX4_isGreater_85 rfl rfl ?_
                    refine tz_aL (pc := 86) (z := a) (v := (J 7 a)) dX4_isGreater_86 a_7 rfl (by omega) (Eq.trans (congrFun (f2.1 7 rfl) a) (Eq.trans (congrFun (fr.1 7 rfl) a) rfl)) (fun r_86 => ?_)
                    refine tz_aload_n (pc := 87) dX4_isGreater_87 rfl rfl ?_
                    refine tz_fR (pc := 88) dX4_isGreater_88 fl_X4_25 r_156_0 ?_
                    refine tz_fR (pc := 91) dX4_isGreater_91 fl_X4_43 r_6_1 ?_
                    refine tz_iload (pc := 94) dX4_isGreater_94 rfl ?_
                    refine tz_aL (pc := 96) (z := b) (v := (J 7 b)) dX4_isGreater_96 a_7 rfl (by omega) (Eq.trans (congrFun (f2.1 7 rfl) b) (Eq.trans (congrFun (fr.1 7 rfl) b) rfl)) (fun r_96 => ?_)
                    refine tz_icmp_eq (pc := 97) (tgt := 128) dX4_isGreater_97 (by decide) (by omega) (by omega) (fun h_97 => ?_) (fun h_97 => ?_)
                    · refine tz_aload_n (pc := 128) dX4_isGreater_128 rfl rfl ?_
                      refine tz_iload_n (pc := 129) dX4_isGreater_129 rfl rfl ?_
                      refine tz_iload (pc := 130) dX4_isGreater_130 rfl ?_
                      have C2 : CT J_25 m := C.of (fun c hc => f20.1 c (by simp [zbut]; omega))
                      refine tz_cV (pc := 132) (x_unlike hl n _ _ _ (by omega) (by omega) m C2 ha hb (by rw [e7]; omega) ne9) vl_X4_46 dX4_isGreater_132 o_156 rfl rfl (Nat.le_of_ble_eq_true rfl) ⟨(Nat.le_of_ble_eq_true rfl), (Nat.le_of_ble_eq_true rfl)⟩ rfl rfl (Nat.le_of_ble_eq_true rfl) (Nat.le_of_ble_eq_true rfl) (fun r9 J_132 hq9 => ?_)
                      obtain ⟨z_132, rfl, hz_132, rfl, fu8⟩ := hq9
                      have fu9 : fuB (J 8) (cag J) a b z_132 := by have := fu8; unfold cag at this ⊢; rw [f20.1 8 rfl, e9] at this; exact this
                      have e8 := C.arh ha hb (by omega)
                      have fi9 := fu9.1
                      have g1 := C.arg (t := a) (i := z_132) (by omega) (by omega) (by omega) (by omega)
                      have g2 := (C.arg (t := b) (i := z_132) (by omega) (by omega) (by omega) (by omega)).1
                      refine tz_istore (pc := 135) (L2 := [_, _, _, _, _, _, _]) dX4_isGreater_135 (by decide) rfl ?_
                      refine tz_aload_n (pc := 137) dX4_isGreater_137 rfl rfl ?_
                      refine tz_fR (pc := 138) dX4_isGreater_138 fl_X4_25 r_156_0 ?_
                      refine tz_iload_n (pc := 141) dX4_isGreater_141 rfl rfl ?_
                      refine tz_iload (pc := 142) dX4_isGreater_142 rfl ?_
                      refine tz_cV (pc := 144) (c_arg hl n _ _ _ (by omega) (by omega) (by omega)) vl_X4_50 dX4_isGreater_144 o_6 rfl rfl (Nat.le_of_ble_eq_true rfl) ⟨(Nat.le_of_ble_eq_true rfl), (Nat.le_of_ble_eq_true rfl)⟩ rfl rfl (Nat.le_of_ble_eq_true rfl) (Nat.le_of_ble_eq_true rfl) (fun r9 J_144 hq9 => ?_)
                      obtain ⟨z_144, rfl, hz_144, rfl, hv_144⟩ := hq9
                      rw [e9] at hv_144
                      obtain rfl : J 9 (a * 3 + z_132) = z_144 := hv_144
                      refine tz_istore_n (pc := 147) (L2 := [_, _, _, _, _, _, _]) dX4_isGreater_147 rfl (by decide) rfl ?_
                      refine tz_aload_n (pc := 148) dX4_isGreater_148 rfl rfl ?_
                      refine tz_fR (pc := 149) dX4_isGreater_149 fl_X4_25 r_156_0 ?_
                      refine tz_iload (pc := 152) dX4_isGreater_152 rfl ?_
                      refine tz_iload (pc := 154) dX4_isGreater_154 rfl ?_
                      refine tz_cV (pc := 156) (c_arg hl n _ _ _ (by omega) (by omega) (by omega)) vl_X4_50 dX4_isGreater_156 o_6 rfl rfl (Nat.le_of_ble_eq_true rfl) ⟨(Nat.le_of_ble_eq_true rfl), (Nat.le_of_ble_eq_true rfl)⟩ rfl rfl (Nat.le_of_ble_eq_true rfl) (Nat.le_of_ble_eq_true rfl) (fun r9 J_156 hq9 => ?_)
                      obtain ⟨z_156, rfl, hz_156, rfl, hv_156⟩ := hq9
                      rw [e9] at hv_156
                      obtain rfl : J 9 (b * 3 + z_132) = z_156 := hv_156
                      refine tz_istore (pc := 159) (L2 := [_, _, _, _, _, _, _]) dX4_isGreater_159 (by decide) rfl ?_
                      refine tz_iinc (pc := 161) (z := k + 1) (L2 := [_, _, _, _, _, _, _]) dX4_isGreater_161 rfl (by omega) rfl ?_
                      refine tz_goto (pc := 164) (tgt := 8) dX4_isGreater_164 (by decide) ?_
                      exact ih8 _ _ (k + 1) _ _ (by omega) (by omega) (by omega) (by omega) (by omega) f20 (hg.trans (by rw [hk9, show (6 - (k + 1)).toNat = (5 - k).toNat by omega]; constructor; (rintro ⟨q1, q2, q3⟩; rcases q3 with q | ⟨_, q | ⟨q4, q5, q6⟩⟩; omega; omega; (rcases q6 with q7 | ⟨q7, i2, q8, q9⟩; omega; (have ei := fuB_u q8 fu9; subst ei; exact q9))); (intro q; exact ⟨ne9, hv9, Or.inr ⟨by omega, Or.inr ⟨by omega, by omega, Or.inr ⟨by omega, z_132, fu9, q⟩⟩⟩⟩)))
                    · refine tz_aload_n (pc := 100) dX4_isGreater_100 rfl rfl ?_
                      refine tz_fR (pc := 101) dX4_isGreater_101 fl_X4_25 r_156_0 ?_
                      refine tz_fR (pc := 104) dX4_isGreater_104 fl_X4_43 r_6_1 ?_
                      refine tz_iload_n (pc := 107) dX4_isGreater_107 rfl rfl ?_
                      refine tz_aL (pc := 108) (z := a) (v := (J 7 a)) dX4_isGreater_108 a_7 rfl (by omega) (Eq.trans (congrFun (f2.1 7 rfl) a) (Eq.trans (congrFun (fr.1 7 rfl) a) rfl)) (fun r_108 => ?_)
                      refine tz_aload_n (pc := 109) dX4_isGreater_109 rfl rfl ?_
                      refine tz_fR (pc := 110) dX4_isGreater_110 fl_X4_25 r_156_0 ?_
                      refine tz_fR (pc := 113) dX4_isGreater_113 fl_X4_43 r_6_1 ?_
                      refine tz_iload (pc := 116) dX4_isGreater_116 rfl ?_
                      refine tz_aL (pc := 118) (z := b) (v := (J 7 b)) dX4_isGreater_118 a_7 rfl (by omega) (Eq.trans (congrFun (f2.1 7 rfl) b) (Eq.trans (congrFun (fr.1 7 rfl) b) rfl)) (fun r_118 => ?_)
                      refine tz_icmp_le (pc := 119) (tgt := 126) dX4_isGreater_119 (by decide) (by omega) (by omega) (fun h_119 => ?_) (fun h_119 => ?_)
                      · refine tz_iconst (pc := 126) dX4_isGreater_126 ?_
                        exact tz_zret (pc := 127) (z := 0) dX4_isGreater_127 rfl (Or.inl rfl) (Nat.le_of_ble_eq_true rfl) (Nat.le_of_ble_eq_true rfl) ⟨Nat.le_refl _, Nat.le_add_right _ _⟩ ⟨_, rfl, (by decide), ⟨Or.inr ⟨rfl, fun e => by have e1 := hg.1 e; rw [hk9] at e1; rcases e1.2.2 with q | ⟨_, q | ⟨q1, q2, q3⟩⟩; omega; omega; (rcases q3 with q4 | q4; omega; have := q4.1; omega)⟩, f20⟩⟩
                      · refine tz_iconst (pc := 122) dX4_isGreater_122 ?_
                        refine tz_goto (pc := 123) (tgt := 127) dX4_isGreater_123 (by decide) ?_
                        exact tz_zret (pc := 127) (z := 1) dX4_isGreater_127 rfl (Or.inr rfl) (Nat.le_of_ble_eq_true rfl) (Nat.le_of_ble_eq_true rfl) ⟨Nat.le_refl _, Nat.le_add_right _ _⟩ ⟨_, rfl, (by decide), ⟨Or.inl ⟨rfl, hg.2 (by rw [hk9]; exact ⟨ne9, hv9, Or.inr ⟨by omega, Or.inr ⟨by omega, by omega, Or.inl (by omega)⟩⟩⟩)⟩, f20⟩⟩
            · refine tz_iconst (pc := 42) dX4_isGreater_42 ?_
              exact tz_zret (pc := 43) (z := 0) dX4_isGreater_43 rfl (Or.inl rfl) (Nat.le_of_ble_eq_true rfl) (Nat.le_of_ble_eq_true rfl) ⟨Nat.le_refl _, Nat.le_add_right _ _⟩ ⟨_, rfl, (by decide), ⟨Or.inr ⟨rfl, fun e => by have e1 := hg.1 e; rw [hk9] at e1; first | (obtain ⟨v, q1, q2⟩ := lk9; have q3 := e1.2.1 v q1.1 q1.2; have q4 := b2 v q1.1 q1.2; omega) | (rcases e1.2.2 with q | q; omega; have := q.1; omega)⟩, f20⟩⟩
  exact loop8 _ _ _ 0 none _ (Nat.lt_succ_self _) (by omega) hs ht (by omega) ⟨zOf.rf, fun _ _ => rfl⟩ Iff.rfl

set_option maxHeartbeats 4000000 in
set_option maxRecDepth 100000 in
theorem t_isRule {l : Launch} {G : tb_G} (hl : l.stackTraces = false) (n : Nat) (J : zJ) (x : Int) (y : Int) (hr_x : -2147483648 ≤ x ∧ x < 2147483648) (hr_y : -2147483648 ≤ y ∧ y < 2147483648) (m sy wy : Int) (C : CT J m) (hm : J 6 12 = m) (hx : 0 ≤ x ∧ x < m) (hy : 0 ≤ y ∧ y < m) (hw : 1 ≤ wy ∧ wy ≤ 9) (h3 : J 156 3 = sy ∧ J 156 4 = wy) : tz_Ok l G M_X7_isRule 13 0 0 [.ref 155, zi x, zi y] n J (zqi (fun z J' => ((z = 1 ∧ xru J sy wy x y) ∨ (z = 0 ∧ ¬ xru J sy wy x y)) ∧ (zOf (zbut [156, 157]) J' J ∧ ∀ k, ¬ k = 2 → J' 156 k = J 156 k))) zN := by
  refine tz_Ok.of hl (by decide +kernel) rfl (tb_c1 rfl) (Nat.le_of_ble_eq_true rfl) ?_
  show tz_At l G M_X7_isRule (tb_rm 13 0 0) none (tb_ZM G 0 0 (zQ n 0 (zqi (fun z J' => ((z = 1 ∧ xru J sy wy x y) ∨ (z = 0 ∧ ¬ xru J sy wy x y)) ∧ (zOf (zbut [156, 157]) J' J ∧ ∀ k, ¬ k = 2 → J' 156 k = J 156 k)))) (zX n 0 zN)) 0 0 n J 0 [some (.ref 155), some (zi x), some (zi y)] []
  have hb := C.told
  have hnx := (C.nums hx.1 hx.2).1
  have hny := (C.nums hy.1 hy.2).1
  refine tz_aload_n (pc := 0) dX7_isRule_0 rfl rfl ?_
  refine tz_fR (pc := 1) dX7_isRule_1 fl_X7_21 r_155_1 ?_
  refine tz_iload_n (pc := 4) dX7_isRule_4 rfl rfl ?_
  refine tz_cV (pc := 5) (c_has hl n _ _ (by omega)) vl_X7_40 dX7_isRule_5 o_6 rfl rfl (Nat.le_of_ble_eq_true rfl) ⟨(Nat.le_of_ble_eq_true rfl), (Nat.le_of_ble_eq_true rfl)⟩ rfl rfl (Nat.le_of_ble_eq_true rfl) (Nat.le_of_ble_eq_true rfl) (fun r9 J_5 hq9 => ?_)
  obtain ⟨z_5, rfl, hz_5, rfl, rfl⟩ := hq9
  by_cases hw_8 : 0 ≤ x ∧ x < J 6 12
  · rw [show (if 0 ≤ x ∧ x < J 6 12 then 1 else 0 : Int) = 1 from if_pos hw_8]
    refine tz_if_eqF (pc := 8) (tgt := 77) (by decide) dX7_isRule_8 (by decide) (by decide) ?_
    refine tz_aload_n (pc := 11) dX7_isRule_11 rfl rfl ?_
    refine tz_fR (pc := 12) dX7_isRule_12 fl_X7_21 r_155_1 ?_
    refine tz_iload_n (pc := 15) dX7_isRule_15 rfl rfl ?_
    refine tz_cV (pc := 16) (c_has hl n _ _ (by omega)) vl_X7_40 dX7_isRule_16 o_6 rfl rfl (Nat.le_of_ble_eq_true rfl) ⟨(Nat.le_of_ble_eq_true rfl), (Nat.le_of_ble_eq_true rfl)⟩ rfl rfl (Nat.le_of_ble_eq_true rfl) (Nat.le_of_ble_eq_true rfl) (fun r9 J_16 hq9 => ?_)
    obtain ⟨z_16, rfl, hz_16, rfl, rfl⟩ := hq9
    by_cases hw_19 : 0 ≤ y ∧ y < J 6 12
    · rw [show (if 0 ≤ y ∧ y < J 6 12 then 1 else 0 : Int) = 1 from if_pos hw_19]
      refine tz_if_eqF (pc := 19) (tgt := 77) (by decide) dX7_isRule_19 (by decide) (by decide) ?_
      refine tz_aload_n (pc := 22) dX7_isRule_22 rfl rfl ?_
      refine tz_fR (pc := 23) dX7_isRule_23 fl_X7_21 r_155_1 ?_
      refine tz_iload_n (pc := 26) dX7_isRule_26 rfl rfl ?_
      refine tz_cV (pc := 27) (c_isVar hl n _ _ (by omega) (by omega)) vl_X7_46 dX7_isRule_27 o_6 rfl rfl (Nat.le_of_ble_eq_true rfl) ⟨(Nat.le_of_ble_eq_true rfl), (Nat.le_of_ble_eq_true rfl)⟩ rfl rfl (Nat.le_of_ble_eq_true rfl) (Nat.le_of_ble_eq_true rfl) (fun r9 J_27 hq9 => ?_)
      obtain ⟨z_27, rfl, hz_27, rfl, rfl⟩ := hq9
      by_cases hw_30 : J 7 x < 0
      · rw [show (if J 7 x < 0 then 1 else 0 : Int) = 1 from if_pos hw_30]
        refine tz_if_neT (pc := 30) (tgt := 77) (by decide) dX7_isRule_30 (by decide) (by decide) ?_
        refine tz_iconst (pc := 77) dX7_isRule_77 ?_
        exact tz_zret (pc := 78) (z := 0) dX7_isRule_78 rfl (Or.inl rfl) (Nat.le_of_ble_eq_true rfl) (Nat.le_of_ble_eq_true rfl) ⟨Nat.le_refl _, Nat.le_add_right _ _⟩ ⟨_, rfl, (by decide), ⟨Or.inr ⟨rfl, fun e => by obtain ⟨e1, e2, e3, e4⟩ := e; first | omega | (rcases h1 with q | q; omega; exact q.2 e2)⟩, ⟨zOf.rf, fun _ _ => rfl⟩⟩⟩
      · rw [show (if J 7 x < 0 then 1 else 0 : Int) = 0 from if_neg hw_30]
        refine tz_if_neF (pc := 30) (tgt := 77) (by decide) dX7_isRule_30 (by decide) (by decide) ?_
        refine tz_aload_n (pc := 33) dX7_isRule_33 rfl rfl ?_
        refine tz_fR (pc := 34) dX7_isRule_34 fl_X7_21 r_155_1 ?_
        refine tz_fR (pc := 37) dX7_isRule_37 fl_X7_49 r_6_4 ?_
        refine tz_iload_n (pc := 40) dX7_isRule_40 rfl rfl ?_
        refine tz_aL (pc := 41) (z := x) (v := (J 10 x)) dX7_isRule_41 a_10 rfl (by omega) rfl (fun r_41 => ?_)
        refine tz_bipush (pc := 42) dX7_isRule_42 (by decide) ?_
        refine tz_icmp_gt (pc := 44) (tgt := 77) dX7_isRule_44 (by decide) (by omega) (by decide) (fun h_44 => ?_) (fun h_44 => ?_)
        · refine tz_iconst (pc := 77) dX7_isRule_77 ?_
          exact tz_zret (pc := 78) (z := 0) dX7_isRule_78 rfl (Or.inl rfl) (Nat.le_of_ble_eq_true rfl) (Nat.le_of_ble_eq_true rfl) ⟨Nat.le_refl _, Nat.le_add_right _ _⟩ ⟨_, rfl, (by decide), ⟨Or.inr ⟨rfl, fun e => by obtain ⟨e1, e2, e3, e4⟩ := e; first | omega | (rcases h1 with q | q; omega; exact q.2 e2)⟩, ⟨zOf.rf, fun _ _ => rfl⟩⟩⟩
        · refine tz_aload_n (pc := 47) dX7_isRule_47 rfl rfl ?_
          refine tz_fR (pc := 48) dX7_isRule_48 fl_X7_21 r_155_1 ?_
          refine tz_fR (pc := 51) dX7_isRule_51 fl_X7_49 r_6_4 ?_
          refine tz_iload_n (pc := 54) dX7_isRule_54 rfl rfl ?_
          refine tz_aL (pc := 55) (z := y) (v := (J 10 y)) dX7_isRule_55 a_10 rfl (by omega) rfl (fun r_55 => ?_)
          refine tz_bipush (pc := 56) dX7_isRule_56 (by decide) ?_
          refine tz_icmp_gt (pc := 58) (tgt := 77) dX7_isRule_58 (by decide) (by omega) (by decide) (fun h_58 => ?_) (fun h_58 => ?_)
          · refine tz_iconst (pc := 77) dX7_isRule_77 ?_
            exact tz_zret (pc := 78) (z := 0) dX7_isRule_78 rfl (Or.inl rfl) (Nat.le_of_ble_eq_true rfl) (Nat.le_of_ble_eq_true rfl) ⟨Nat.le_refl _, Nat.le_add_right _ _⟩ ⟨_, rfl, (by decide), ⟨Or.inr ⟨rfl, fun e => by obtain ⟨e1, e2, e3, e4⟩ := e; first | omega | (rcases h1 with q | q; omega; exact q.2 e2)⟩, ⟨zOf.rf, fun _ _ => rfl⟩⟩⟩
          · refine tz_aload_n (pc := 61) dX7_isRule_61 rfl rfl ?_
            refine tz_fR (pc := 62) dX7_isRule_62 fl_X7_30 r_155_4 ?_
            refine tz_iload_n (pc := 65) dX7_isRule_65 rfl rfl ?_
            refine tz_iload_n (pc := 66) dX7_isRule_66 rfl rfl ?_
            refine tz_cV (pc := 67) (t_greater hl n _ _ _ (by omega) (by omega) m sy wy C hx hy hw h3) vl_X7_34 dX7_isRule_67 o_156 rfl rfl (Nat.le_of_ble_eq_true rfl) ⟨(Nat.le_of_ble_eq_true rfl), (Nat.le_of_ble_eq_true rfl)⟩ rfl rfl (Nat.le_of_ble_eq_true rfl) (Nat.le_of_ble_eq_true rfl) (fun r9 J_67 hq9 => ?_)
            obtain ⟨z_67, rfl, hz_67, h1, f1⟩ := hq9
            refine tz_if_eq (pc := 70) (tgt := 77) dX7_isRule_70 (by decide) (by omega) (fun h_70 => ?_) (fun h_70 => ?_)
            · refine tz_iconst (pc := 77) dX7_isRule_77 ?_
              exact tz_zret (pc := 78) (z := 0) dX7_isRule_78 rfl (Or.inl rfl) (Nat.le_of_ble_eq_true rfl) (Nat.le_of_ble_eq_true rfl) ⟨Nat.le_refl _, Nat.le_add_right _ _⟩ ⟨_, rfl, (by decide), ⟨Or.inr ⟨rfl, fun e => by obtain ⟨e1, e2, e3, e4⟩ := e; first | omega | (rcases h1 with q | q; omega; exact q.2 e2)⟩, f1⟩⟩
            · refine tz_iconst (pc := 73) dX7_isRule_73 ?_
              refine tz_goto (pc := 74) (tgt := 78) dX7_isRule_74 (by decide) ?_
              exact tz_zret (pc := 78) (z := 1) dX7_isRule_78 rfl (Or.inr rfl) (Nat.le_of_ble_eq_true rfl) (Nat.le_of_ble_eq_true rfl) ⟨Nat.le_refl _, Nat.le_add_right _ _⟩ ⟨_, rfl, (by decide), ⟨Or.inl ⟨rfl, by omega, by rcases h1 with q | q; exact q.2; omega, by omega, by omega⟩, f1⟩⟩
    · rw [show (if 0 ≤ y ∧ y < J 6 12 then 1 else 0 : Int) = 0 from if_neg hw_19]
      refine tz_if_eqT (pc := 19) (tgt := 77) (by decide) dX7_isRule_19 (by decide) (by decide) ?_
      refine tz_iconst (pc := 77) dX7_isRule_77 ?_
      exact tz_zret (pc := 78) (z := 0) dX7_isRule_78 rfl (Or.inl rfl) (Nat.le_of_ble_eq_true rfl) (Nat.le_of_ble_eq_true rfl) ⟨Nat.le_refl _, Nat.le_add_right _ _⟩ ⟨_, rfl, (by decide), ⟨Or.inr ⟨rfl, fun e => by obtain ⟨e1, e2, e3, e4⟩ := e; first | omega | (rcases h1 with q | q; omega; exact q.2 e2)⟩, ⟨zOf.rf, fun _ _ => rfl⟩⟩⟩
  · rw [show (if 0 ≤ x ∧ x < J 6 12 then 1 else 0 : Int) = 0 from if_neg hw_8]
    refine tz_if_eqT (pc := 8) (tgt := 77) (by decide) dX7_isRule_8 (by decide) (by decide) ?_
    refine tz_iconst (pc := 77) dX7_isRule_77 ?_
    exact tz_zret (pc := 78) (z := 0) dX7_isRule_78 rfl (Or.inl rfl) (Nat.le_of_ble_eq_true rfl) (Nat.le_of_ble_eq_true rfl) ⟨Nat.le_refl _, Nat.le_add_right _ _⟩ ⟨_, rfl, (by decide), ⟨Or.inr ⟨rfl, fun e => by obtain ⟨e1, e2, e3, e4⟩ := e; first | omega | (rcases h1 with q | q; omega; exact q.2 e2)⟩, ⟨zOf.rf, fun _ _ => rfl⟩⟩⟩

/-! ===== do all rules fit ===== -/
def UPu (P : Int → Prop) (i : Int) : Prop := ∀ j, 0 ≤ j → j < i → P j
theorem up_b {P : Int → Prop} {N i q z : Int} (h : (z = 1 ∧ P i) ∨ (z = 0 ∧ ¬ P i)) (g : (q = 1 ∧ UPu P i) ∨ (q = 0 ∧ ¬ UPu P N)) (hq : ¬ q = 0) (hi : 0 ≤ i ∧ i < N) : (z = 1 ∧ UPu P (i + 1)) ∨ (z = 0 ∧ ¬ UPu P N) := by
  rcases g with ⟨_, g⟩ | ⟨g, _⟩
  · rcases h with ⟨a, b⟩ | ⟨a, b⟩
    · refine Or.inl ⟨a, fun j x y => ?_⟩
      by_cases e : j = i
      · rw [e]; exact b
      · exact g j x (by omega)
    · exact Or.inr ⟨a, fun w => b (w i hi.1 hi.2)⟩
  · exact absurd g hq
theorem up_e {P : Int → Prop} {N i q : Int} (g : (q = 1 ∧ UPu P i) ∨ (q = 0 ∧ ¬ UPu P N)) (h : q = 0 ∨ N ≤ i) (hi : i ≤ N) : (q = 1 ∧ UPu P N) ∨ (q = 0 ∧ ¬ UPu P N) := by
  rcases g with ⟨a, b⟩ | g
  · obtain rfl : i = N := by omega
    exact Or.inl ⟨a, b⟩
  · exact Or.inr g
theorem upu_0 {P : Int → Prop} {N : Int} : ((1 : Int) = 1 ∧ UPu P 0) ∨ ((1 : Int) = 0 ∧ ¬ UPu P N) := Or.inl ⟨rfl, fun j a b => absurd b (by omega)⟩
/-- how many of 1 .. k, and the least of them -/
noncomputable def nfc (P : Int → Prop) : Nat → Int
  | 0 => 0
  | k + 1 => nfc P k + cif (P ((k : Int) + 1)) 1 0
noncomputable def lfc (P : Int → Prop) : Nat → Int
  | 0 => -1
  | k + 1 => if lfc P k = -1 then cif (P ((k : Int) + 1)) ((k : Int) + 1) (-1) else lfc P k
theorem nfc_s {P : Int → Prop} {k : Nat} : nfc P (k + 1) = nfc P k + cif (P ((k : Int) + 1)) 1 0 := rfl
theorem lfc_s {P : Int → Prop} {k : Nat} : lfc P (k + 1) = if lfc P k = -1 then cif (P ((k : Int) + 1)) ((k : Int) + 1) (-1) else lfc P k := rfl
theorem fc_u {u : Int} (hu : 1 ≤ u) : ∃ k : Nat, u = (k : Int) + 1 ∧ (u + 1 - 1).toNat = k + 1 ∧ (u - 1).toNat = k := ⟨(u - 1).toNat, by omega, by omega, rfl⟩
theorem nfc_t {P : Int → Prop} {u : Int} (hu : 1 ≤ u) (h : P u) : nfc P (u + 1 - 1).toNat = nfc P (u - 1).toNat + 1 := by
  obtain ⟨k, e, e1, e2⟩ := fc_u hu
  rw [e1, e2, nfc_s, cif_pos (by rw [← e]; exact h)]
theorem nfc_f {P : Int → Prop} {u : Int} (hu : 1 ≤ u) (h : ¬ P u) : nfc P (u + 1 - 1).toNat = nfc P (u - 1).toNat := by
  obtain ⟨k, e, e1, e2⟩ := fc_u hu
  rw [e1, e2, nfc_s, cif_neg (by rw [← e]; exact h), Int.add_zero]
theorem nfc_nn {P : Int → Prop} : ∀ k, 0 ≤ nfc P k
  | 0 => Int.le_refl _
  | k + 1 => by
    have := nfc_nn (P := P) k
    rw [nfc_s]
    by_cases h : P ((k : Int) + 1)
    · rw [cif_pos h]; omega
    · rw [cif_neg h]; omega
theorem nl_fc {P : Int → Prop} : ∀ k, nfc P k = 0 ↔ lfc P k = -1
  | 0 => ⟨fun _ => rfl, fun _ => rfl⟩
  | k + 1 => by
    have ih := nl_fc (P := P) k
    have nn := nfc_nn (P := P) k
    rw [nfc_s, lfc_s]
    by_cases h : P ((k : Int) + 1)
    · rw [cif_pos h, cif_pos h]
      refine ⟨fun w => by omega, fun w => ?_⟩
      by_cases e : lfc P k = -1
      · rw [if_pos e] at w; omega
      · rw [if_neg e] at w; exact absurd w e
    · rw [cif_neg h, cif_neg h, Int.add_zero]
      by_cases e : lfc P k = -1
      · rw [if_pos e]; exact ⟨fun _ => rfl, fun _ => ih.2 e⟩
      · rw [if_neg e]; exact ih
theorem lf_a {P : Int → Prop} {u : Int} (hu : 1 ≤ u) (h : ¬ P u) : lfc P (u + 1 - 1).toNat = lfc P (u - 1).toNat := by
  obtain ⟨k, e, e1, e2⟩ := fc_u hu
  rw [e1, e2, lfc_s, cif_neg (by rw [← e]; exact h)]
  split
  · next q => exact q.symm
  · rfl
theorem lf_b {P : Int → Prop} {u : Int} (hu : 1 ≤ u) (h : P u) (q : lfc P (u - 1).toNat = -1) : lfc P (u + 1 - 1).toNat = u := by
  obtain ⟨k, e, e1, e2⟩ := fc_u hu
  rw [e2] at q
  rw [e1, lfc_s, if_pos q, cif_pos (by rw [← e]; exact h)]
  exact e.symm
theorem lf_c {P : Int → Prop} {u : Int} (hu : 1 ≤ u) (q : ¬ lfc P (u - 1).toNat = -1) : lfc P (u + 1 - 1).toNat = lfc P (u - 1).toNat := by
  obtain ⟨k, e, e1, e2⟩ := fc_u hu
  rw [e2] at q
  rw [e1, e2, lfc_s, if_neg q]
theorem lfc_k {P : Int → Prop} {k : Nat} (q : ¬ lfc P k = -1) : ∀ j, lfc P (k + j) = lfc P k
  | 0 => rfl
  | j + 1 => by
    have ih := lfc_k q j
    show lfc P ((k + j) + 1) = _
    rw [lfc_s, ih, if_neg q]
theorem lfc_9 {P : Int → Prop} {u : Int} (hu : 1 ≤ u ∧ u ≤ 9) (h : P u) (q : lfc P (u - 1).toNat = -1) : lfc P 9 = u := by
  have a := lf_b hu.1 h q
  have b := lfc_k (P := P) (k := (u + 1 - 1).toNat) (by rw [a]; omega) (9 - (u + 1 - 1).toNat)
  rw [show (u + 1 - 1).toNat + (9 - (u + 1 - 1).toNat) = 9 by omega, a] at b
  exact b
theorem cif_cg {a b : Int} {p q : Prop} (h : p ↔ q) : cif p a b = cif q a b := by rw [propext h]
theorem nfc_cg {P Q : Int → Prop} : ∀ k : Nat, (∀ u : Int, 1 ≤ u → u ≤ (k : Int) → (P u ↔ Q u)) → nfc P k = nfc Q k
  | 0, _ => rfl
  | k + 1, h => by rw [nfc_s, nfc_s, nfc_cg k (fun u a b => h u a (by omega)), cif_cg (h ((k : Int) + 1) (by omega) (by omega))]
theorem lfc_cg {P Q : Int → Prop} : ∀ k : Nat, (∀ u : Int, 1 ≤ u → u ≤ (k : Int) → (P u ↔ Q u)) → lfc P k = lfc Q k
  | 0, _ => rfl
  | k + 1, h => by rw [lfc_s, lfc_s, lfc_cg k (fun u a b => h u a (by omega)), cif_cg (h ((k : Int) + 1) (by omega) (by omega))]
/-! ===== fits of the class ===== -/
def TFp (J : zJ) (s u : Int) : Int → Prop := fun j => xru J s u (J 19 (15 + j)) (J 19 (23 + j))
def TFB (J : zJ) (s u : Int) : Prop := UPu (TFp J s u) (J 19 4)
theorem TFB_of {J' J : zJ} {s : Int} (f : zOf (zbut [156, 157]) J' J) : TFB J' s = TFB J s := by
  funext u
  unfold TFB TFp
  rw [xru_of f, f 19 rfl]
set_option maxHeartbeats 4000000 in
set_option maxRecDepth 100000 in
theorem t_fitsBy {l : Launch} {G : tb_G} (hl : l.stackTraces = false) (n : Nat) (J : zJ) (s : Int) (u : Int) (hr_s : -2147483648 ≤ s ∧ s < 2147483648) (hr_u : -2147483648 ≤ u ∧ u < 2147483648) (m : Int) (C : CT J m) (hm : J 6 12 = m) (hL : LI (J 19) m) (hu : 1 ≤ u ∧ u ≤ 9) : tz_Ok l G M_X7_fitsBy 14 0 0 [.ref 155, zi s, zi u] n J (zqi (fun z J' => ((z = 1 ∧ TFB J s u) ∨ (z = 0 ∧ ¬ TFB J s u)) ∧ zOf (zbut [156, 157]) J' J ∧ J' 156 3 = -1)) zN := by
  refine tz_Ok.of hl (by decide +kernel) rfl (tb_c1 rfl) (Nat.le_of_ble_eq_true rfl) ?_
  show tz_At l G M_X7_fitsBy (tb_rm 14 0 0) none (tb_ZM G 0 0 (zQ n 0 (zqi (fun z J' => ((z = 1 ∧ TFB J s u) ∨ (z = 0 ∧ ¬ TFB J s u)) ∧ zOf (zbut [156, 157]) J' J ∧ J' 156 3 = -1))) (zX n 0 zN)) 0 0 n J 0 [some (.ref 155), some (zi s), some (zi u), none, none, none] []
  have hb := C.told
  have h4 := hL.1.2.1
  refine tz_aload_n (pc := 0) dX7_fitsBy_0 rfl rfl ?_
  refine tz_fR (pc := 1) dX7_fitsBy_1 fl_X7_9 r_155_0 ?_
  refine tz_fR (pc := 4) dX7_fitsBy_4 fl_X7_56 r_5_1 ?_
  refine tz_fR (pc := 7) dX7_fitsBy_7 fl_X7_60 r_18_0 ?_
  refine tz_astore_n (pc := 10) (L2 := [_, _, _, _, _, _]) dX7_fitsBy_10 rfl (by decide) rfl ?_
  refine tz_iconst (pc := 11) dX7_fitsBy_11 ?_
  refine tz_istore (pc := 12) (L2 := [_, _, _, _, _, _]) dX7_fitsBy_12 (by decide) rfl ?_
  refine tz_aload_n (pc := 14) dX7_fitsBy_14 rfl rfl ?_
  refine tz_fR (pc := 15) dX7_fitsBy_15 fl_X7_30 r_155_4 ?_
  refine tz_iload_n (pc := 18) dX7_fitsBy_18 rfl rfl ?_
  refine tz_iload_n (pc := 19) dX7_fitsBy_19 rfl rfl ?_
  refine tz_cV (pc := 20) (c_tryW hl n _ _ _ (by omega) (by omega)) vl_X7_65 dX7_fitsBy_20 o_156 rfl rfl (Nat.le_of_ble_eq_true rfl) ⟨(Nat.le_of_ble_eq_true rfl), (Nat.le_of_ble_eq_true rfl)⟩ rfl rfl (Nat.le_of_ble_eq_true rfl) (Nat.le_of_ble_eq_true rfl) (fun r9 J_20 hq9 => ?_)
  obtain ⟨rfl, rfl⟩ := hq9
  refine tz_iconst (pc := 23) dX7_fitsBy_23 ?_
  refine tz_istore (pc := 24) (L2 := [_, _, _, _, _, _]) dX7_fitsBy_24 (by decide) rfl ?_
  have loop26 : ∀ (f9 : Nat) (q : Int) (i : Int) (J1 : zJ), ((8 - i).toNat) < f9 → (((q = 1 ∧ UPu (TFp J s u) i) ∨ (q = 0 ∧ ¬ UPu (TFp J s u) (J 19 4)))) → (0 ≤ i ∧ i ≤ J 19 4) → (zOf (zbut [156, 157]) J1 J) → (J1 156 3 = s ∧ J1 156 4 = u) → tz_At l G M_X7_fitsBy (tb_rm 14 0 0) none (tb_ZM G 0 0 (zQ n 0 (zqi (fun z J' => ((z = 1 ∧ TFB J s u) ∨ (z = 0 ∧ ¬ TFB J s u)) ∧ zOf (zbut [156, 157]) J' J ∧ J' 156 3 = -1))) (zX n 0 zN)) 0 0 n J1 26 [some (.ref 155), some (zi s), some (zi u), some (.ref 19), some (zi q), some (zi i)] [] := by
    intro f9
    induction f9 with
    | zero => intro q i J1 hm9; exact absurd hm9 (Nat.not_lt_zero _)
    | succ f9 ih26 =>
      intro q i J1 hm26 hq hi f1 k1
      refine tz_iload (pc := 26) dX7_fitsBy_26 rfl ?_
      refine tz_aload_n (pc := 28) dX7_fitsBy_28 rfl rfl ?_
      refine tz_iconst (pc := 29) dX7_fitsBy_29 ?_
      refine tz_aL (pc := 30) (z := 4) (v := (J 19 4)) dX7_fitsBy_30 a_19 rfl (by decide) (Eq.trans (congrFun (f1 19 rfl) 4) rfl) (fun r_30 => ?_)
      refine tz_icmp_ge (pc := 31) (tgt := 65) dX7_fitsBy_31 (by decide) (by omega) (by omega) (fun h_31 => ?_) (fun h_31 => ?_)
      · refine tz_aload_n (pc := 65) dX7_fitsBy_65 rfl rfl ?_
        refine tz_fR (pc := 66) dX7_fitsBy_66 fl_X7_30 r_155_4 ?_
        refine tz_cV (pc := 69) (c_tryN hl n _) vl_X7_72 dX7_fitsBy_69 o_156 rfl rfl (Nat.le_of_ble_eq_true rfl) ⟨(Nat.le_of_ble_eq_true rfl), (Nat.le_of_ble_eq_true rfl)⟩ rfl rfl (Nat.le_of_ble_eq_true rfl) (Nat.le_of_ble_eq_true rfl) (fun r9 J_69 hq9 => ?_)
        obtain ⟨rfl, rfl⟩ := hq9
        refine tz_iload (pc := 72) dX7_fitsBy_72 rfl ?_
        exact tz_zret (pc := 74) (z := q) dX7_fitsBy_74 rfl (by omega) (Nat.le_of_ble_eq_true rfl) (Nat.le_of_ble_eq_true rfl) ⟨Nat.le_refl _, Nat.le_add_right _ _⟩ ⟨_, rfl, (by omega), ⟨up_e hq (by omega) (by omega), zOf.up rfl f1, zup_at⟩⟩
      · refine tz_iload (pc := 34) dX7_fitsBy_34 rfl ?_
        refine tz_if_eq (pc := 36) (tgt := 65) dX7_fitsBy_36 (by decide) (by omega) (fun h_36 => ?_) (fun h_36 => ?_)
        · refine tz_aload_n (pc := 65) dX7_fitsBy_65 rfl rfl ?_
          refine tz_fR (pc := 66) dX7_fitsBy_66 fl_X7_30 r_155_4 ?_
          refine tz_cV (pc := 69) (c_tryN hl n _) vl_X7_72 dX7_fitsBy_69 o_156 rfl rfl (Nat.le_of_ble_eq_true rfl) ⟨(Nat.le_of_ble_eq_true rfl), (Nat.le_of_ble_eq_true rfl)⟩ rfl rfl (Nat.le_of_ble_eq_true rfl) (Nat.le_of_ble_eq_true rfl) (fun r9 J_69 hq9 => ?_)
          obtain ⟨rfl, rfl⟩ := hq9
          refine tz_iload (pc := 72) dX7_fitsBy_72 rfl ?_
          exact tz_zret (pc := 74) (z := q) dX7_fitsBy_74 rfl (by omega) (Nat.le_of_ble_eq_true rfl) (Nat.le_of_ble_eq_true rfl) ⟨Nat.le_refl _, Nat.le_add_right _ _⟩ ⟨_, rfl, (by omega), ⟨up_e hq (by omega) (by omega), zOf.up rfl f1, zup_at⟩⟩
        · refine tz_aload_n (pc := 39) dX7_fitsBy_39 rfl rfl ?_
          refine tz_aload_n (pc := 40) dX7_fitsBy_40 rfl rfl ?_
          refine tz_bipush (pc := 41) dX7_fitsBy_41 (by decide) ?_
          refine tz_iload (pc := 43) dX7_fitsBy_43 rfl ?_
          refine tz_iadd (pc := 45) (v := 15 + i) dX7_fitsBy_45 rfl ?_
          refine tz_aL (pc := 46) (z := (15 + i)) (v := (J 19 (15 + i))) dX7_fitsBy_46 a_19 rfl (by omega) (Eq.trans (congrFun (f1 19 rfl) (15 + i)) rfl) (fun r_46 => ?_)
          refine tz_aload_n (pc := 47) dX7_fitsBy_47 rfl rfl ?_
          refine tz_bipush (pc := 48) dX7_fitsBy_48 (by decide) ?_
          refine tz_iload (pc := 50) dX7_fitsBy_50 rfl ?_
          refine tz_iadd (pc := 52) (v := 23 + i) dX7_fitsBy_52 rfl ?_
          refine tz_aL (pc := 53) (z := (23 + i)) (v := (J 19 (23 + i))) dX7_fitsBy_53 a_19 rfl (by omega) (Eq.trans (congrFun (f1 19 rfl) (23 + i)) rfl) (fun r_53 => ?_)
          have e9 := hL.2.2.1 i (by omega) (by omega)
          refine tz_cV (pc := 54) (t_isRule hl n _ _ _ (by omega) (by omega) m s u (C.of (fun c hc => f1 c (by simp [zbut]; omega))) (by rw [f1 6 rfl]; exact hm) e9.1 e9.2 hu k1) vl_X7_69 dX7_fitsBy_54 o_155 rfl rfl (Nat.le_of_ble_eq_true rfl) ⟨(Nat.le_of_ble_eq_true rfl), (Nat.le_of_ble_eq_true rfl)⟩ rfl rfl (Nat.le_of_ble_eq_true rfl) (Nat.le_of_ble_eq_true rfl) (fun r9 J_54 hq9 => ?_)
          obtain ⟨z_54, rfl, hz_54, i1, i2⟩ := hq9
          rw [xru_of f1] at i1
          refine tz_istore (pc := 57) (L2 := [_, _, _, _, _, _]) dX7_fitsBy_57 (by decide) rfl ?_
          refine tz_iinc (pc := 59) (z := i + 1) (L2 := [_, _, _, _, _, _]) dX7_fitsBy_59 rfl (by omega) rfl ?_
          refine tz_goto (pc := 62) (tgt := 26) dX7_fitsBy_62 (by decide) ?_
          exact ih26 _ (i + 1) _ (by omega) (up_b (P := TFp J s u) i1 hq (by omega) (by omega)) (by omega) (i2.1.tr f1) ⟨(i2.2 3 (by decide)).trans k1.1, (i2.2 4 (by decide)).trans k1.2⟩
  exact loop26 _ 1 0 _ (Nat.lt_succ_self _) upu_0 (by omega) (zOf.up rfl (zOf.up rfl zOf.rf)) ⟨rfl, rfl⟩

set_option maxHeartbeats 4000000 in
set_option maxRecDepth 100000 in
theorem t_fits {l : Launch} {G : tb_G} (hl : l.stackTraces = false) (n : Nat) (J : zJ) (s : Int) (hr_s : -2147483648 ≤ s ∧ s < 2147483648) (m : Int) (C : CT J m) (hm : J 6 12 = m) (hL : LI (J 19) m) : tz_Ok l G M_X7_fits 15 0 0 [.ref 155, zi s] n J (zqi (fun z J' => zOf (zbut [156, 157]) J' J ∧ (J 156 3 = -1 → J' 156 3 = -1) ∧ z = nfc (TFB J s) 9)) zN := by
  refine tz_Ok.of hl (by decide +kernel) rfl (tb_c1 rfl) (Nat.le_of_ble_eq_true rfl) ?_
  show tz_At l G M_X7_fits (tb_rm 15 0 0) none (tb_ZM G 0 0 (zQ n 0 (zqi (fun z J' => zOf (zbut [156, 157]) J' J ∧ (J 156 3 = -1 → J' 156 3 = -1) ∧ z = nfc (TFB J s) 9))) (zX n 0 zN)) 0 0 n J 0 [some (.ref 155), some (zi s), none, none] []
  refine tz_iconst (pc := 0) dX7_fits_0 ?_
  refine tz_istore_n (pc := 1) (L2 := [_, _, _, _]) dX7_fits_1 rfl (by decide) rfl ?_
  refine tz_iconst (pc := 2) dX7_fits_2 ?_
  refine tz_istore_n (pc := 3) (L2 := [_, _, _, _]) dX7_fits_3 rfl (by decide) rfl ?_
  have loop4 : ∀ (f9 : Nat) (q : Int) (u : Int) (J1 : zJ), ((10 - u).toNat) < f9 → ((1 ≤ u ∧ u ≤ 10) ∧ 0 ≤ q ∧ q < u) → (zOf (zbut [156, 157]) J1 J) → (J 156 3 = -1 → J1 156 3 = -1) → (q = nfc (TFB J s) (u - 1).toNat) → tz_At l G M_X7_fits (tb_rm 15 0 0) none (tb_ZM G 0 0 (zQ n 0 (zqi (fun z J' => zOf (zbut [156, 157]) J' J ∧ (J 156 3 = -1 → J' 156 3 = -1) ∧ z = nfc (TFB J s) 9))) (zX n 0 zN)) 0 0 n J1 4 [some (.ref 155), some (zi s), some (zi q), some (zi u)] [] := by
    intro f9
    induction f9 with
    | zero => intro q u J1 hm9; exact absurd hm9 (Nat.not_lt_zero _)
    | succ f9 ih4 =>
      intro q u J1 hm4 hu f1 k1 hq
      refine tz_iload_n (pc := 4) dX7_fits_4 rfl rfl ?_
      refine tz_bipush (pc := 5) dX7_fits_5 (by decide) ?_
      refine tz_icmp_gt (pc := 7) (tgt := 33) dX7_fits_7 (by decide) (by omega) (by decide) (fun h_7 => ?_) (fun h_7 => ?_)
      · refine tz_iload_n (pc := 33) dX7_fits_33 rfl rfl ?_
        exact tz_iret (pc := 34) (z := q) dX7_fits_34 rfl (Nat.le_of_ble_eq_true rfl) (Nat.le_of_ble_eq_true rfl) ⟨Nat.le_refl _, Nat.le_add_right _ _⟩ ⟨_, rfl, (by omega), ⟨f1, k1, by rw [hq, show (u - 1).toNat = 9 from by omega]⟩⟩
      · refine tz_iload_n (pc := 10) dX7_fits_10 rfl rfl ?_
        refine tz_aload_n (pc := 11) dX7_fits_11 rfl rfl ?_
        refine tz_iload_n (pc := 12) dX7_fits_12 rfl rfl ?_
        refine tz_iload_n (pc := 13) dX7_fits_13 rfl rfl ?_
        refine tz_cV (pc := 14) (t_fitsBy hl n _ _ _ (by omega) (by omega) m (C.of (fun c hc => f1 c (by simp [zbut]; omega))) (by rw [f1 6 rfl]; exact hm) (by rw [f1 19 rfl]; exact hL) (by omega)) vl_X7_53 dX7_fits_14 o_155 rfl rfl (Nat.le_of_ble_eq_true rfl) ⟨(Nat.le_of_ble_eq_true rfl), (Nat.le_of_ble_eq_true rfl)⟩ rfl rfl (Nat.le_of_ble_eq_true rfl) (Nat.le_of_ble_eq_true rfl) (fun r9 J_14 hq9 => ?_)
        obtain ⟨z_14, rfl, hz_14, i1, i2, i3⟩ := hq9
        rw [TFB_of f1] at i1
        refine tz_if_eq (pc := 17) (tgt := 24) dX7_fits_17 (by decide) (by omega) (fun h_17 => ?_) (fun h_17 => ?_)
        · refine tz_iconst (pc := 24) dX7_fits_24 ?_
          refine tz_iadd (pc := 25) (v := q + 0) dX7_fits_25 rfl ?_
          refine tz_istore_n (pc := 26) (L2 := [_, _, _, _]) dX7_fits_26 rfl (by decide) rfl ?_
          refine tz_iinc (pc := 27) (z := u + 1) (L2 := [_, _, _, _]) dX7_fits_27 rfl (by omega) rfl ?_
          refine tz_goto (pc := 30) (tgt := 4) dX7_fits_30 (by decide) ?_
          exact ih4 _ (u + 1) _ (by omega) (by omega) (i2.tr f1) (fun _ => i3) (by first | (rw [nfc_t (by omega) (or_l i1 (by omega))]; omega) | (rw [nfc_f (by omega) (or_r i1 (by omega))]; omega))
        · refine tz_iconst (pc := 20) dX7_fits_20 ?_
          refine tz_goto (pc := 21) (tgt := 25) dX7_fits_21 (by decide) ?_
          refine tz_iadd (pc := 25) (v := q + 1) dX7_fits_25 rfl ?_
          refine tz_istore_n (pc := 26) (L2 := [_, _, _, _]) dX7_fits_26 rfl (by decide) rfl ?_
          refine tz_iinc (pc := 27) (z := u + 1) (L2 := [_, _, _, _]) dX7_fits_27 rfl (by omega) rfl ?_
          refine tz_goto (pc := 30) (tgt := 4) dX7_fits_30 (by decide) ?_
          exact ih4 _ (u + 1) _ (by omega) (by omega) (i2.tr f1) (fun _ => i3) (by first | (rw [nfc_t (by omega) (or_l i1 (by omega))]; omega) | (rw [nfc_f (by omega) (or_r i1 (by omega))]; omega))
  exact loop4 _ 0 1 _ (Nat.lt_succ_self _) (by omega) zOf.rf id rfl

set_option maxHeartbeats 4000000 in
set_option maxRecDepth 100000 in
theorem t_leastFit {l : Launch} {G : tb_G} (hl : l.stackTraces = false) (n : Nat) (J : zJ) (s : Int) (hr_s : -2147483648 ≤ s ∧ s < 2147483648) (m : Int) (C : CT J m) (hm : J 6 12 = m) (hL : LI (J 19) m) : tz_Ok l G M_X7_leastFit 15 0 0 [.ref 155, zi s] n J (zqi (fun z J' => zOf (zbut [156, 157]) J' J ∧ (J 156 3 = -1 → J' 156 3 = -1) ∧ z = lfc (TFB J s) 9)) zN := by
  refine tz_Ok.of hl (by decide +kernel) rfl (tb_c1 rfl) (Nat.le_of_ble_eq_true rfl) ?_
  show tz_At l G M_X7_leastFit (tb_rm 15 0 0) none (tb_ZM G 0 0 (zQ n 0 (zqi (fun z J' => zOf (zbut [156, 157]) J' J ∧ (J 156 3 = -1 → J' 156 3 = -1) ∧ z = lfc (TFB J s) 9))) (zX n 0 zN)) 0 0 n J 0 [some (.ref 155), some (zi s), none] []
  refine tz_iconst (pc := 0) dX7_leastFit_0 ?_
  refine tz_istore_n (pc := 1) (L2 := [_, _, _]) dX7_leastFit_1 rfl (by decide) rfl ?_
  have loop2 : ∀ (f9 : Nat) (u : Int) (J1 : zJ), ((10 - u).toNat) < f9 → (1 ≤ u ∧ u ≤ 10) → (zOf (zbut [156, 157]) J1 J) → (J 156 3 = -1 → J1 156 3 = -1) → (lfc (TFB J s) (u - 1).toNat = -1) → tz_At l G M_X7_leastFit (tb_rm 15 0 0) none (tb_ZM G 0 0 (zQ n 0 (zqi (fun z J' => zOf (zbut [156, 157]) J' J ∧ (J 156 3 = -1 → J' 156 3 = -1) ∧ z = lfc (TFB J s) 9))) (zX n 0 zN)) 0 0 n J1 2 [some (.ref 155), some (zi s), some (zi u)] [] := by
    intro f9
    induction f9 with
    | zero => intro u J1 hm9; exact absurd hm9 (Nat.not_lt_zero _)
    | succ f9 ih2 =>
      intro u J1 hm2 hu f1 k1 hq
      refine tz_iload_n (pc := 2) dX7_leastFit_2 rfl rfl ?_
      refine tz_bipush (pc := 3) dX7_leastFit_3 (by decide) ?_
      refine tz_icmp_gt (pc := 5) (tgt := 25) dX7_leastFit_5 (by decide) (by omega) (by decide) (fun h_5 => ?_) (fun h_5 => ?_)
      · refine tz_iconst (pc := 25) dX7_leastFit_25 ?_
        exact tz_iret (pc := 26) (z := (-1)) dX7_leastFit_26 rfl (Nat.le_of_ble_eq_true rfl) (Nat.le_of_ble_eq_true rfl) ⟨Nat.le_refl _, Nat.le_add_right _ _⟩ ⟨_, rfl, (by decide), (by first | exact ⟨i2.tr f1, fun _ => i3, (lfc_9 (by omega) (or_l i1 (by omega)) hq).symm⟩ | exact ⟨f1, k1, by rw [← hq, show (u - 1).toNat = 9 from by omega]⟩)⟩
      · refine tz_aload_n (pc := 8) dX7_leastFit_8 rfl rfl ?_
        refine tz_iload_n (pc := 9) dX7_leastFit_9 rfl rfl ?_
        refine tz_iload_n (pc := 10) dX7_leastFit_10 rfl rfl ?_
        refine tz_cV (pc := 11) (t_fitsBy hl n _ _ _ (by omega) (by omega) m (C.of (fun c hc => f1 c (by simp [zbut]; omega))) (by rw [f1 6 rfl]; exact hm) (by rw [f1 19 rfl]; exact hL) (by omega)) vl_X7_53 dX7_leastFit_11 o_155 rfl rfl (Nat.le_of_ble_eq_true rfl) ⟨(Nat.le_of_ble_eq_true rfl), (Nat.le_of_ble_eq_true rfl)⟩ rfl rfl (Nat.le_of_ble_eq_true rfl) (Nat.le_of_ble_eq_true rfl) (fun r9 J_11 hq9 => ?_)
        obtain ⟨z_11, rfl, hz_11, i1, i2, i3⟩ := hq9
        rw [TFB_of f1] at i1
        refine tz_if_eq (pc := 14) (tgt := 19) dX7_leastFit_14 (by decide) (by omega) (fun h_14 => ?_) (fun h_14 => ?_)
        · refine tz_iinc (pc := 19) (z := u + 1) (L2 := [_, _, _]) dX7_leastFit_19 rfl (by omega) rfl ?_
          refine tz_goto (pc := 22) (tgt := 2) dX7_leastFit_22 (by decide) ?_
          exact ih2 (u + 1) _ (by omega) (by omega) (i2.tr f1) (fun _ => i3) ((lf_a (by omega) (or_r i1 (by omega))).trans hq)
        · refine tz_iload_n (pc := 17) dX7_leastFit_17 rfl rfl ?_
          exact tz_iret (pc := 18) (z := u) dX7_leastFit_18 rfl (Nat.le_of_ble_eq_true rfl) (Nat.le_of_ble_eq_true rfl) ⟨Nat.le_refl _, Nat.le_add_right _ _⟩ ⟨_, rfl, (by omega), (by first | exact ⟨i2.tr f1, fun _ => i3, (lfc_9 (by omega) (or_l i1 (by omega)) hq).symm⟩ | exact ⟨f1, k1, by rw [← hq, show (u - 1).toNat = 9 from by omega]⟩)⟩
  exact loop2 _ 1 _ (Nat.lt_succ_self _) (by omega) zOf.rf id rfl

set_option maxHeartbeats 4000000 in
set_option maxRecDepth 100000 in
theorem e_symbol {l : Launch} {G : tb_G} (hl : l.stackTraces = false) (n : Nat) (J : zJ) (s : Int) (u : Int) (hr_s : -2147483648 ≤ s ∧ s < 2147483648) (hr_u : -2147483648 ≤ u ∧ u < 2147483648) (m : Int) (S : zJ) (pn : Int) (RR : Int → Int → Int) (hI : CI J m) (h9 : J 145 10 < 1000000000) (cc : CAL J S pn RR) (h21 : S 164 21 = 0) : tz_Ok l G M_X11_symbol 16 1 6 [.ref 0, zi s, zi u] n J (zqi (fun z J' => CQ J' J ∧ CAL J' S pn RR ∧ ((0 ≤ s ∧ s < J 1 3) ∧ 0 ≤ u ∧ u ≤ 4) ∧ ((u = 0 → z = J 2 s) ∧ (u = 1 → z = J 3 s) ∧ (u = 2 → z = J 4 s) ∧ (u = 3 → z = nfc (TFB J s) 9) ∧ (u = 4 → z = lfc (TFB J s) 9)))) (fun E J' => E = "java/util/NoSuchElementException" ∧ J = J' ∧ ¬ ((0 ≤ s ∧ s < J 1 3) ∧ 0 ≤ u ∧ u ≤ 4)) := by
  refine tz_Ok.of hl (by decide +kernel) rfl (tb_c1 rfl) (Nat.le_of_ble_eq_true rfl) ?_
  show tz_At l G M_X11_symbol (tb_rm 16 1 6) none (tb_ZM G 1 6 (zQ n 1 (zqi (fun z J' => CQ J' J ∧ CAL J' S pn RR ∧ ((0 ≤ s ∧ s < J 1 3) ∧ 0 ≤ u ∧ u ≤ 4) ∧ ((u = 0 → z = J 2 s) ∧ (u = 1 → z = J 3 s) ∧ (u = 2 → z = J 4 s) ∧ (u = 3 → z = nfc (TFB J s) 9) ∧ (u = 4 → z = lfc (TFB J s) 9))))) (zX n 1 (fun E J' => E = "java/util/NoSuchElementException" ∧ J = J' ∧ ¬ ((0 ≤ s ∧ s < J 1 3) ∧ 0 ≤ u ∧ u ≤ 4)))) 0 0 n J 0 [some (.ref 0), some (zi s), some (zi u)] []
  have hC := hI.1.1.1
  have hm := hI.1.1.2.1
  have hL := hI.1.1.2.2
  have hb := hC.told
  refine tz_aload_n (pc := 0) dX11_symbol_0 rfl rfl ?_
  refine tz_fR (pc := 1) dX11_symbol_1 fl_X11_10 r_0_0 ?_
  refine tz_iload_n (pc := 4) dX11_symbol_4 rfl rfl ?_
  refine tz_cV (pc := 5) (c_syHas hl n _ _ (by omega)) vl_X11_193 dX11_symbol_5 o_1 rfl rfl (Nat.le_of_ble_eq_true rfl) ⟨(Nat.le_of_ble_eq_true rfl), (Nat.le_of_ble_eq_true rfl)⟩ rfl rfl (Nat.le_of_ble_eq_true rfl) (Nat.le_of_ble_eq_true rfl) (fun r9 J_5 hq9 => ?_)
  obtain ⟨z_5, rfl, hz_5, rfl, rfl⟩ := hq9
  by_cases hw_8 : 0 ≤ s ∧ s < J 1 3
  · rw [show (if 0 ≤ s ∧ s < J 1 3 then 1 else 0 : Int) = 1 from if_pos hw_8]
    refine tz_if_neT (pc := 8) (tgt := 21) (by decide) dX11_symbol_8 (by decide) (by decide) ?_
    refine tz_iload_n (pc := 21) dX11_symbol_21 rfl rfl ?_
    by_cases hs_22 : u < 0 ∨ 4 < u
    · refine tz_tabOut (pc := 22) (tgt := 104) dX11_symbol_22 (by omega) hs_22 (by decide) ?_
      exact tz_throwN (pc := 104) (text := "no such question of a symbol") th_X11_188_192 (by decide +kernel) rfl dX11_symbol_104 dX11_symbol_107 dX11_symbol_108 dX11_symbol_110 dX11_symbol_113 (Nat.le_of_ble_eq_true rfl) (Nat.le_of_ble_eq_true rfl) (Nat.le_of_ble_eq_true rfl) (Nat.le_of_ble_eq_true rfl) (Nat.le_of_ble_eq_true rfl) (Nat.le_of_ble_eq_true rfl) ⟨Nat.le_refl _, Nat.le_add_right _ _⟩ ⟨rfl, rfl, by omega⟩
    · have hs9 : u = 0 ∨ u = 1 ∨ u = 2 ∨ u = 3 ∨ u = 4 := by omega
      rcases hs9 with hc_22 | hc_22 | hc_22 | hc_22 | hc_22
      · refine tz_tabIn (pc := 22) (tgt := 56) 0 dX11_symbol_22 hc_22 (by decide) rfl (by decide) ?_
        refine tz_aload_n (pc := 56) dX11_symbol_56 rfl rfl ?_
        refine tz_fR (pc := 57) dX11_symbol_57 fl_X11_10 r_0_0 ?_
        refine tz_fR (pc := 60) dX11_symbol_60 fl_X11_199 r_1_0 ?_
        refine tz_iload_n (pc := 63) dX11_symbol_63 rfl rfl ?_
        refine tz_aL (pc := 64) (z := s) (v := (J 2 s)) dX11_symbol_64 a_2 rfl (by omega) rfl (fun r_64 => ?_)
        exact tz_iret (pc := 65) (z := (J 2 s)) dX11_symbol_65 rfl (Nat.le_of_ble_eq_true rfl) (Nat.le_of_ble_eq_true rfl) ⟨Nat.le_refl _, Nat.le_add_right _ _⟩ ⟨_, rfl, (by omega), (by first | (have hw := hI.work6 f1 rfl (k1 hI.1.2.2.1.2); exact ⟨⟨⟨m, hw.1⟩, by rw [hw.2.1]; omega, hw.2.2.1, hw.2.2.2⟩, cc.wk7 hI f1 rfl, by omega, ⟨(fun q9 => by first | exact absurd q9 (by omega) | rfl), (fun q9 => by first | exact absurd q9 (by omega) | rfl), (fun q9 => by first | exact absurd q9 (by omega) | rfl), (fun q9 => by first | exact absurd q9 (by omega) | exact e3), (fun q9 => by first | exact absurd q9 (by omega) | exact e3)⟩⟩) | exact ⟨CQ.rf hI, cc, by omega, ⟨(fun q9 => by first | exact absurd q9 (by omega) | rfl), (fun q9 => by first | exact absurd q9 (by omega) | rfl), (fun q9 => by first | exact absurd q9 (by omega) | rfl), (fun q9 => by first | exact absurd q9 (by omega) | exact e3), (fun q9 => by first | exact absurd q9 (by omega) | exact e3)⟩⟩)⟩
      · refine tz_tabIn (pc := 22) (tgt := 66) 1 dX11_symbol_22 hc_22 (by decide) rfl (by decide) ?_
        refine tz_aload_n (pc := 66) dX11_symbol_66 rfl rfl ?_
        refine tz_fR (pc := 67) dX11_symbol_67 fl_X11_10 r_0_0 ?_
        refine tz_fR (pc := 70) dX11_symbol_70 fl_X11_202 r_1_1 ?_
        refine tz_iload_n (pc := 73) dX11_symbol_73 rfl rfl ?_
        refine tz_aL (pc := 74) (z := s) (v := (J 3 s)) dX11_symbol_74 a_3 rfl (by omega) rfl (fun r_74 => ?_)
        exact tz_iret (pc := 75) (z := (J 3 s)) dX11_symbol_75 rfl (Nat.le_of_ble_eq_true rfl) (Nat.le_of_ble_eq_true rfl) ⟨Nat.le_refl _, Nat.le_add_right _ _⟩ ⟨_, rfl, (by omega), (by first | (have hw := hI.work6 f1 rfl (k1 hI.1.2.2.1.2); exact ⟨⟨⟨m, hw.1⟩, by rw [hw.2.1]; omega, hw.2.2.1, hw.2.2.2⟩, cc.wk7 hI f1 rfl, by omega, ⟨(fun q9 => by first | exact absurd q9 (by omega) | rfl), (fun q9 => by first | exact absurd q9 (by omega) | rfl), (fun q9 => by first | exact absurd q9 (by omega) | rfl), (fun q9 => by first | exact absurd q9 (by omega) | exact e3), (fun q9 => by first | exact absurd q9 (by omega) | exact e3)⟩⟩) | exact ⟨CQ.rf hI, cc, by omega, ⟨(fun q9 => by first | exact absurd q9 (by omega) | rfl), (fun q9 => by first | exact absurd q9 (by omega) | rfl), (fun q9 => by first | exact absurd q9 (by omega) | rfl), (fun q9 => by first | exact absurd q9 (by omega) | exact e3), (fun q9 => by first | exact absurd q9 (by omega) | exact e3)⟩⟩)⟩
      · refine tz_tabIn (pc := 22) (tgt := 76) 2 dX11_symbol_22 hc_22 (by decide) rfl (by decide) ?_
        refine tz_aload_n (pc := 76) dX11_symbol_76 rfl rfl ?_
        refine tz_fR (pc := 77) dX11_symbol_77 fl_X11_10 r_0_0 ?_
        refine tz_fR (pc := 80) dX11_symbol_80 fl_X11_205 r_1_2 ?_
        refine tz_iload_n (pc := 83) dX11_symbol_83 rfl rfl ?_
        refine tz_aL (pc := 84) (z := s) (v := (J 4 s)) dX11_symbol_84 a_4 rfl (by omega) rfl (fun r_84 => ?_)
        exact tz_iret (pc := 85) (z := (J 4 s)) dX11_symbol_85 rfl (Nat.le_of_ble_eq_true rfl) (Nat.le_of_ble_eq_true rfl) ⟨Nat.le_refl _, Nat.le_add_right _ _⟩ ⟨_, rfl, (by omega), (by first | (have hw := hI.work6 f1 rfl (k1 hI.1.2.2.1.2); exact ⟨⟨⟨m, hw.1⟩, by rw [hw.2.1]; omega, hw.2.2.1, hw.2.2.2⟩, cc.wk7 hI f1 rfl, by omega, ⟨(fun q9 => by first | exact absurd q9 (by omega) | rfl), (fun q9 => by first | exact absurd q9 (by omega) | rfl), (fun q9 => by first | exact absurd q9 (by omega) | rfl), (fun q9 => by first | exact absurd q9 (by omega) | exact e3), (fun q9 => by first | exact absurd q9 (by omega) | exact e3)⟩⟩) | exact ⟨CQ.rf hI, cc, by omega, ⟨(fun q9 => by first | exact absurd q9 (by omega) | rfl), (fun q9 => by first | exact absurd q9 (by omega) | rfl), (fun q9 => by first | exact absurd q9 (by omega) | rfl), (fun q9 => by first | exact absurd q9 (by omega) | exact e3), (fun q9 => by first | exact absurd q9 (by omega) | exact e3)⟩⟩)⟩
      · refine tz_tabIn (pc := 22) (tgt := 86) 3 dX11_symbol_22 hc_22 (by decide) rfl (by decide) ?_
        refine tz_aload_n (pc := 86) dX11_symbol_86 rfl rfl ?_
        refine tz_fR (pc := 87) dX11_symbol_87 fl_X11_81 r_0_9 ?_
        refine tz_iload_n (pc := 90) dX11_symbol_90 rfl rfl ?_
        refine tz_cV (pc := 91) (t_fits hl n _ _ (by omega) m hC hm hL) vl_X11_208 dX11_symbol_91 o_155 rfl rfl (Nat.le_of_ble_eq_true rfl) ⟨(Nat.le_of_ble_eq_true rfl), (Nat.le_of_ble_eq_true rfl)⟩ rfl rfl (Nat.le_of_ble_eq_true rfl) (Nat.le_of_ble_eq_true rfl) (fun r9 J_91 hq9 => ?_)
        obtain ⟨z_91, rfl, hz_91, f1, k1, e3⟩ := hq9
        exact tz_iret (pc := 94) (z := z_91) dX11_symbol_94 rfl (Nat.le_of_ble_eq_true rfl) (Nat.le_of_ble_eq_true rfl) ⟨Nat.le_refl _, Nat.le_add_right _ _⟩ ⟨_, rfl, (by omega), (by first | (have hw := hI.work6 f1 rfl (k1 hI.1.2.2.1.2); exact ⟨⟨⟨m, hw.1⟩, by rw [hw.2.1]; omega, hw.2.2.1, hw.2.2.2⟩, cc.wk7 hI f1 rfl, by omega, ⟨(fun q9 => by first | exact absurd q9 (by omega) | rfl), (fun q9 => by first | exact absurd q9 (by omega) | rfl), (fun q9 => by first | exact absurd q9 (by omega) | rfl), (fun q9 => by first | exact absurd q9 (by omega) | exact e3), (fun q9 => by first | exact absurd q9 (by omega) | exact e3)⟩⟩) | exact ⟨CQ.rf hI, cc, by omega, ⟨(fun q9 => by first | exact absurd q9 (by omega) | rfl), (fun q9 => by first | exact absurd q9 (by omega) | rfl), (fun q9 => by first | exact absurd q9 (by omega) | rfl), (fun q9 => by first | exact absurd q9 (by omega) | exact e3), (fun q9 => by first | exact absurd q9 (by omega) | exact e3)⟩⟩)⟩
      · refine tz_tabIn (pc := 22) (tgt := 95) 4 dX11_symbol_22 hc_22 (by decide) rfl (by decide) ?_
        refine tz_aload_n (pc := 95) dX11_symbol_95 rfl rfl ?_
        refine tz_fR (pc := 96) dX11_symbol_96 fl_X11_81 r_0_9 ?_
        refine tz_iload_n (pc := 99) dX11_symbol_99 rfl rfl ?_
        refine tz_cV (pc := 100) (t_leastFit hl n _ _ (by omega) m hC hm hL) vl_X11_211 dX11_symbol_100 o_155 rfl rfl (Nat.le_of_ble_eq_true rfl) ⟨(Nat.le_of_ble_eq_true rfl), (Nat.le_of_ble_eq_true rfl)⟩ rfl rfl (Nat.le_of_ble_eq_true rfl) (Nat.le_of_ble_eq_true rfl) (fun r9 J_100 hq9 => ?_)
        obtain ⟨z_100, rfl, hz_100, f1, k1, e3⟩ := hq9
        exact tz_iret (pc := 103) (z := z_100) dX11_symbol_103 rfl (Nat.le_of_ble_eq_true rfl) (Nat.le_of_ble_eq_true rfl) ⟨Nat.le_refl _, Nat.le_add_right _ _⟩ ⟨_, rfl, (by omega), (by first | (have hw := hI.work6 f1 rfl (k1 hI.1.2.2.1.2); exact ⟨⟨⟨m, hw.1⟩, by rw [hw.2.1]; omega, hw.2.2.1, hw.2.2.2⟩, cc.wk7 hI f1 rfl, by omega, ⟨(fun q9 => by first | exact absurd q9 (by omega) | rfl), (fun q9 => by first | exact absurd q9 (by omega) | rfl), (fun q9 => by first | exact absurd q9 (by omega) | rfl), (fun q9 => by first | exact absurd q9 (by omega) | exact e3), (fun q9 => by first | exact absurd q9 (by omega) | exact e3)⟩⟩) | exact ⟨CQ.rf hI, cc, by omega, ⟨(fun q9 => by first | exact absurd q9 (by omega) | rfl), (fun q9 => by first | exact absurd q9 (by omega) | rfl), (fun q9 => by first | exact absurd q9 (by omega) | rfl), (fun q9 => by first | exact absurd q9 (by omega) | exact e3), (fun q9 => by first | exact absurd q9 (by omega) | exact e3)⟩⟩)⟩
  · rw [show (if 0 ≤ s ∧ s < J 1 3 then 1 else 0 : Int) = 0 from if_neg hw_8]
    refine tz_if_neF (pc := 8) (tgt := 21) (by decide) dX11_symbol_8 (by decide) (by decide) ?_
    exact tz_throwN (pc := 11) (text := "no such symbol") th_X11_188_192 (by decide +kernel) rfl dX11_symbol_11 dX11_symbol_14 dX11_symbol_15 dX11_symbol_17 dX11_symbol_20 (Nat.le_of_ble_eq_true rfl) (Nat.le_of_ble_eq_true rfl) (Nat.le_of_ble_eq_true rfl) (Nat.le_of_ble_eq_true rfl) (Nat.le_of_ble_eq_true rfl) (Nat.le_of_ble_eq_true rfl) ⟨Nat.le_refl _, Nat.le_add_right _ _⟩ ⟨rfl, rfl, by omega⟩

/-! ===== fits of the reference ===== -/
def MFp (J : zJ) (b d x u : Int) : Int → Prop := fun j => mgt (zup J 171 x u) b d 6 (J 165 (10 + 2 * j)) (J 165 (10 + 2 * j + 1))
def MFB (J : zJ) (b d x u : Int) : Prop := UPu (MFp J b d x u) (J 165 9)
theorem f171_w {J1 J : zJ} {x v : Int} (f : zOf (zbut [171]) J1 J ∧ ∀ k, ¬ k = x → J1 171 k = J 171 k) : zup J1 171 x v = zup J 171 x v := by
  funext c
  by_cases e : c = 171
  · subst e
    funext k
    by_cases ek : k = x
    · subst ek
      rw [zup_at, zup_at]
    · rw [zup_ne ek, zup_ne ek]
      exact f.2 k ek
  · rw [zup_nc e, zup_nc e]
    exact f.1 c (by simp [zbut, e])
theorem mgt_c {A B : zJ} {u t : Int} (h6 : A 166 = B 166) (h7 : A 167 = B 167) (h0 : A 170 = B 170) (h1 : A 171 = B 171) : mgt A 0 0 6 u t = mgt B 0 0 6 u t := by
  unfold mgt mwt mcn mgw mgc mag mar
  rw [h6, h7, h0, h1]
theorem MFB_c {A B : zJ} {x : Int} (h5 : A 165 = B 165) (h6 : A 166 = B 166) (h7 : A 167 = B 167) (h0 : A 170 = B 170) (h1 : A 171 = B 171) : MFB A 0 0 x = MFB B 0 0 x := by
  funext u
  unfold MFB
  have e : MFp A 0 0 x u = MFp B 0 0 x u := by
    funext j
    unfold MFp
    rw [h5]
    exact mgt_c (A := zup A 171 x u) (B := zup B 171 x u) h6 h7 h0 (by
      funext k
      show (if k = x then u else A 171 k) = (if k = x then u else B 171 k)
      rw [h1])
  rw [e, h5]
set_option maxHeartbeats 4000000 in
set_option maxRecDepth 100000 in
theorem e_qfits {l : Launch} {G : tb_G} (hl : l.stackTraces = false) (n : Nat) (J : zJ) (x : Int) (y : Int) (hr_x : -2147483648 ≤ x ∧ x < 2147483648) (hr_y : -2147483648 ≤ y ∧ y < 2147483648) (b r d s m : Int) (hM : MS J b r d s m) (hR : MR (J 165) m) (hx : 0 ≤ x ∧ x < 20) (hw9 : ∀ k, 0 ≤ k → k < s → 1 ≤ J 171 (d + k) ∧ J 171 (d + k) ≤ 9) : tz_Ok l G M_X12_fits 20 0 0 [.ref 164, zi x, zi y] n J (zqi (fun z J' => J = J' ∧ z = if y = 0 then nfc (MFB J b d x) 9 else lfc (MFB J b d x) 9)) zN := by
  refine tz_Ok.of hl (by decide +kernel) rfl (tb_c1 rfl) (Nat.le_of_ble_eq_true rfl) ?_
  show tz_At l G M_X12_fits (tb_rm 20 0 0) none (tb_ZM G 0 0 (zQ n 0 (zqi (fun z J' => J = J' ∧ z = if y = 0 then nfc (MFB J b d x) 9 else lfc (MFB J b d x) 9))) (zX n 0 zN)) 0 0 n J 0 [some (.ref 164), some (zi x), some (zi y), none, none, none, none, none, none] []
  obtain ⟨hM1, hM2, hM3, hM4, hM5, hM6⟩ := id hM
  have hT := hM.told
  have hR1 := hR.1
  refine tz_aload_n (pc := 0) dX12_fits_0 rfl rfl ?_
  refine tz_fR (pc := 1) dX12_fits_1 fl_X12_28 r_164_6 ?_
  refine tz_iload_n (pc := 4) dX12_fits_4 rfl rfl ?_
  refine tz_aL (pc := 5) (z := x) (v := (J 171 x)) dX12_fits_5 a_171 rfl (by omega) rfl (fun r_5 => ?_)
  refine tz_istore_n (pc := 6) (L2 := [_, _, _, _, _, _, _, _, _]) dX12_fits_6 rfl (by decide) rfl ?_
  refine tz_iconst (pc := 7) dX12_fits_7 ?_
  refine tz_istore (pc := 8) (L2 := [_, _, _, _, _, _, _, _, _]) dX12_fits_8 (by decide) rfl ?_
  refine tz_iconst (pc := 10) dX12_fits_10 ?_
  refine tz_istore (pc := 11) (L2 := [_, _, _, _, _, _, _, _, _]) dX12_fits_11 (by decide) rfl ?_
  refine tz_iconst (pc := 13) dX12_fits_13 ?_
  refine tz_istore (pc := 14) (L2 := [_, _, _, _, _, _, _, _, _]) dX12_fits_14 (by decide) rfl ?_
  have loop16 : ∀ (f9 : Nat) (q : Int) (e : Int) (w : Int) (d7 : Option Value) (d8 : Option Value) (J1 : zJ), ((10 - w).toNat) < f9 → ((0 ≤ q ∧ q ≤ w) ∧ q = nfc (MFB J b d x) (w - 1).toNat) → ((-1 ≤ e ∧ e ≤ 9) ∧ e = lfc (MFB J b d x) (w - 1).toNat) → (1 ≤ w ∧ w ≤ 10) → (zOf (zbut [171]) J1 J ∧ ∀ k, ¬ k = x → J1 171 k = J 171 k) → tz_At l G M_X12_fits (tb_rm 20 0 0) none (tb_ZM G 0 0 (zQ n 0 (zqi (fun z J' => J = J' ∧ z = if y = 0 then nfc (MFB J b d x) 9 else lfc (MFB J b d x) 9))) (zX n 0 zN)) 0 0 n J1 16 [some (.ref 164), some (zi x), some (zi y), some (zi (J 171 x)), some (zi q), some (zi e), some (zi w), d7, d8] [] := by
    intro f9
    induction f9 with
    | zero => intro q e w d7 d8 J1 hm9; exact absurd hm9 (Nat.not_lt_zero _)
    | succ f9 ih16 =>
      intro q e w d7 d8 J1 hm16 hq he hw f1
      refine tz_iload (pc := 16) dX12_fits_16 rfl ?_
      refine tz_bipush (pc := 18) dX12_fits_18 (by decide) ?_
      refine tz_icmp_gt (pc := 20) (tgt := 118) dX12_fits_20 (by decide) (by omega) (by decide) (fun h_20 => ?_) (fun h_20 => ?_)
      · refine tz_aload_n (pc := 118) dX12_fits_118 rfl rfl ?_
        refine tz_fR (pc := 119) dX12_fits_119 fl_X12_28 r_164_6 ?_
        refine tz_iload_n (pc := 122) dX12_fits_122 rfl rfl ?_
        refine tz_iload_n (pc := 123) dX12_fits_123 rfl rfl ?_
        refine tz_aS (pc := 124) (z := x) dX12_fits_124 a_171 rfl (by omega) (by omega) ?_
        refine tz_iload_n (pc := 125) dX12_fits_125 rfl rfl ?_
        refine tz_if_eq (pc := 126) (tgt := 134) dX12_fits_126 (by decide) (by omega) (fun h_126 => ?_) (fun h_126 => ?_)
        · refine tz_iload (pc := 134) dX12_fits_134 rfl ?_
          exact tz_iret (pc := 136) (z := q) dX12_fits_136 rfl (Nat.le_of_ble_eq_true rfl) (Nat.le_of_ble_eq_true rfl) ⟨Nat.le_refl _, Nat.le_add_right _ _⟩ ⟨_, rfl, (by omega), ⟨f171_end f1, by first | (rw [if_pos (by omega), hq.2, show (w - 1).toNat = 9 from by omega]) | (rw [if_neg (by omega), he.2, show (w - 1).toNat = 9 from by omega])⟩⟩
        · refine tz_iload (pc := 129) dX12_fits_129 rfl ?_
          refine tz_goto (pc := 131) (tgt := 136) dX12_fits_131 (by decide) ?_
          exact tz_iret (pc := 136) (z := e) dX12_fits_136 rfl (Nat.le_of_ble_eq_true rfl) (Nat.le_of_ble_eq_true rfl) ⟨Nat.le_refl _, Nat.le_add_right _ _⟩ ⟨_, rfl, (by omega), ⟨f171_end f1, by first | (rw [if_pos (by omega), hq.2, show (w - 1).toNat = 9 from by omega]) | (rw [if_neg (by omega), he.2, show (w - 1).toNat = 9 from by omega])⟩⟩
      · refine tz_aload_n (pc := 23) dX12_fits_23 rfl rfl ?_
        refine tz_fR (pc := 24) dX12_fits_24 fl_X12_28 r_164_6 ?_
        refine tz_iload_n (pc := 27) dX12_fits_27 rfl rfl ?_
        refine tz_iload (pc := 28) dX12_fits_28 rfl ?_
        refine tz_aS (pc := 30) (z := x) dX12_fits_30 a_171 rfl (by omega) (by omega) ?_
        refine tz_iconst (pc := 31) dX12_fits_31 ?_
        refine tz_istore (pc := 32) (L2 := [_, _, _, _, _, _, _, _, _]) dX12_fits_32 (by decide) rfl ?_
        refine tz_iconst (pc := 34) dX12_fits_34 ?_
        refine tz_istore (pc := 35) (L2 := [_, _, _, _, _, _, _, _, _]) dX12_fits_35 (by decide) rfl ?_
        have loop37 : ∀ (f9 : Nat) (g : Int) (k : Int), ((8 - k).toNat) < f9 → ((g = 1 ∧ UPu (MFp J b d x w) k) ∨ (g = 0 ∧ ¬ UPu (MFp J b d x w) (J 165 9))) → (0 ≤ k ∧ k ≤ J 165 9) → tz_At l G M_X12_fits (tb_rm 20 0 0) none (tb_ZM G 0 0 (zQ n 0 (zqi (fun z J' => J = J' ∧ z = if y = 0 then nfc (MFB J b d x) 9 else lfc (MFB J b d x) 9))) (zX n 0 zN)) 0 0 n (zup J1 171 x w) 37 [some (.ref 164), some (zi x), some (zi y), some (zi (J 171 x)), some (zi q), some (zi e), some (zi w), some (zi g), some (zi k)] [] := by
          intro f9
          induction f9 with
          | zero => intro g k hm9; exact absurd hm9 (Nat.not_lt_zero _)
          | succ f9 ih37 =>
            intro g k hm37 hg hk
            refine tz_iload (pc := 37) dX12_fits_37 rfl ?_
            refine tz_aload_n (pc := 39) dX12_fits_39 rfl rfl ?_
            refine tz_fR (pc := 40) dX12_fits_40 fl_X12_9 r_164_0 ?_
            refine tz_bipush (pc := 43) dX12_fits_43 (by decide) ?_
            refine tz_aL (pc := 45) (z := 9) (v := (J 165 9)) dX12_fits_45 a_165 rfl (by decide) (Eq.trans (congrFun (f1.1 165 rfl) 9) rfl) (fun r_45 => ?_)
            refine tz_icmp_ge (pc := 46) (tgt := 92) dX12_fits_46 (by decide) (by omega) (by omega) (fun h_46 => ?_) (fun h_46 => ?_)
            · refine tz_iload (pc := 92) dX12_fits_92 rfl ?_
              refine tz_if_ne (pc := 94) (tgt := 100) dX12_fits_94 (by decide) (by omega) (fun h_94 => ?_) (fun h_94 => ?_)
              · refine tz_iload (pc := 100) dX12_fits_100 rfl ?_
                refine tz_if_ne (pc := 102) (tgt := 109) dX12_fits_102 (by decide) (by omega) (fun h_102 => ?_) (fun h_102 => ?_)
                · refine tz_iinc (pc := 109) (z := q + 1) (L2 := [_, _, _, _, _, _, _, _, _]) dX12_fits_109 rfl (by omega) rfl ?_
                  refine tz_iinc (pc := 112) (z := w + 1) (L2 := [_, _, _, _, _, _, _, _, _]) dX12_fits_112 rfl (by omega) rfl ?_
                  refine tz_goto (pc := 115) (tgt := 16) dX12_fits_115 (by decide) ?_
                  exact ih16 _ _ (w + 1) _ _ _ (by omega) ⟨by omega, by first | (rw [nfc_t (P := MFB J b d x) (u := w) (by omega) (or_l (up_e hg (by omega) (by omega)) (by omega))]; omega) | (rw [nfc_f (P := MFB J b d x) (u := w) (by omega) (or_r (up_e hg (by omega) (by omega)) (by omega))]; omega)⟩ ⟨by omega, by first | (rw [lf_a (P := MFB J b d x) (u := w) (by omega) (or_r (up_e hg (by omega) (by omega)) (by omega))]; exact he.2) | (rw [lf_b (P := MFB J b d x) (u := w) (by omega) (or_l (up_e hg (by omega) (by omega)) (by omega)) ((nl_fc (P := MFB J b d x) _).1 (by omega))]) | (rw [lf_c (P := MFB J b d x) (u := w) (by omega) (fun w9 => absurd ((nl_fc (P := MFB J b d x) _).2 w9) (by omega))]; exact he.2)⟩ (by omega) (f171_up f1)
                · refine tz_iload (pc := 105) dX12_fits_105 rfl ?_
                  refine tz_istore (pc := 107) (L2 := [_, _, _, _, _, _, _, _, _]) dX12_fits_107 (by decide) rfl ?_
                  refine tz_iinc (pc := 109) (z := q + 1) (L2 := [_, _, _, _, _, _, _, _, _]) dX12_fits_109 rfl (by omega) rfl ?_
                  refine tz_iinc (pc := 112) (z := w + 1) (L2 := [_, _, _, _, _, _, _, _, _]) dX12_fits_112 rfl (by omega) rfl ?_
                  refine tz_goto (pc := 115) (tgt := 16) dX12_fits_115 (by decide) ?_
                  exact ih16 _ _ (w + 1) _ _ _ (by omega) ⟨by omega, by first | (rw [nfc_t (P := MFB J b d x) (u := w) (by omega) (or_l (up_e hg (by omega) (by omega)) (by omega))]; omega) | (rw [nfc_f (P := MFB J b d x) (u := w) (by omega) (or_r (up_e hg (by omega) (by omega)) (by omega))]; omega)⟩ ⟨by omega, by first | (rw [lf_a (P := MFB J b d x) (u := w) (by omega) (or_r (up_e hg (by omega) (by omega)) (by omega))]; exact he.2) | (rw [lf_b (P := MFB J b d x) (u := w) (by omega) (or_l (up_e hg (by omega) (by omega)) (by omega)) ((nl_fc (P := MFB J b d x) _).1 (by omega))]) | (rw [lf_c (P := MFB J b d x) (u := w) (by omega) (fun w9 => absurd ((nl_fc (P := MFB J b d x) _).2 w9) (by omega))]; exact he.2)⟩ (by omega) (f171_up f1)
              · refine tz_goto (pc := 97) (tgt := 112) dX12_fits_97 (by decide) ?_
                refine tz_iinc (pc := 112) (z := w + 1) (L2 := [_, _, _, _, _, _, _, _, _]) dX12_fits_112 rfl (by omega) rfl ?_
                refine tz_goto (pc := 115) (tgt := 16) dX12_fits_115 (by decide) ?_
                exact ih16 _ _ (w + 1) _ _ _ (by omega) ⟨by omega, by first | (rw [nfc_t (P := MFB J b d x) (u := w) (by omega) (or_l (up_e hg (by omega) (by omega)) (by omega))]; omega) | (rw [nfc_f (P := MFB J b d x) (u := w) (by omega) (or_r (up_e hg (by omega) (by omega)) (by omega))]; omega)⟩ ⟨by omega, by first | (rw [lf_a (P := MFB J b d x) (u := w) (by omega) (or_r (up_e hg (by omega) (by omega)) (by omega))]; exact he.2) | (rw [lf_b (P := MFB J b d x) (u := w) (by omega) (or_l (up_e hg (by omega) (by omega)) (by omega)) ((nl_fc (P := MFB J b d x) _).1 (by omega))]) | (rw [lf_c (P := MFB J b d x) (u := w) (by omega) (fun w9 => absurd ((nl_fc (P := MFB J b d x) _).2 w9) (by omega))]; exact he.2)⟩ (by omega) (f171_up f1)
            · refine tz_iload (pc := 49) dX12_fits_49 rfl ?_
              refine tz_if_eq (pc := 51) (tgt := 92) dX12_fits_51 (by decide) (by omega) (fun h_51 => ?_) (fun h_51 => ?_)
              · refine tz_iload (pc := 92) dX12_fits_92 rfl ?_
                refine tz_if_ne (pc := 94) (tgt := 100) dX12_fits_94 (by decide) (by omega) (fun h_94 => ?_) (fun h_94 => ?_)
                · refine tz_iload (pc := 100) dX12_fits_100 rfl ?_
                  refine tz_if_ne (pc := 102) (tgt := 109) dX12_fits_102 (by decide) (by omega) (fun h_102 => ?_) (fun h_102 => ?_)
                  · refine tz_iinc (pc := 109) (z := q + 1) (L2 := [_, _, _, _, _, _, _, _, _]) dX12_fits_109 rfl (by omega) rfl ?_
                    refine tz_iinc (pc := 112) (z := w + 1) (L2 := [_, _, _, _, _, _, _, _, _]) dX12_fits_112 rfl (by omega) rfl ?_
                    refine tz_goto (pc := 115) (tgt := 16) dX12_fits_115 (by decide) ?_
                    exact ih16 _ _ (w + 1) _ _ _ (by omega) ⟨by omega, by first | (rw [nfc_t (P := MFB J b d x) (u := w) (by omega) (or_l (up_e hg (by omega) (by omega)) (by omega))]; omega) | (rw [nfc_f (P := MFB J b d x) (u := w) (by omega) (or_r (up_e hg (by omega) (by omega)) (by omega))]; omega)⟩ ⟨by omega, by first | (rw [lf_a (P := MFB J b d x) (u := w) (by omega) (or_r (up_e hg (by omega) (by omega)) (by omega))]; exact he.2) | (rw [lf_b (P := MFB J b d x) (u := w) (by omega) (or_l (up_e hg (by omega) (by omega)) (by omega)) ((nl_fc (P := MFB J b d x) _).1 (by omega))]) | (rw [lf_c (P := MFB J b d x) (u := w) (by omega) (fun w9 => absurd ((nl_fc (P := MFB J b d x) _).2 w9) (by omega))]; exact he.2)⟩ (by omega) (f171_up f1)
                  · refine tz_iload (pc := 105) dX12_fits_105 rfl ?_
                    refine tz_istore (pc := 107) (L2 := [_, _, _, _, _, _, _, _, _]) dX12_fits_107 (by decide) rfl ?_
                    refine tz_iinc (pc := 109) (z := q + 1) (L2 := [_, _, _, _, _, _, _, _, _]) dX12_fits_109 rfl (by omega) rfl ?_
                    refine tz_iinc (pc := 112) (z := w + 1) (L2 := [_, _, _, _, _, _, _, _, _]) dX12_fits_112 rfl (by omega) rfl ?_
                    refine tz_goto (pc := 115) (tgt := 16) dX12_fits_115 (by decide) ?_
                    exact ih16 _ _ (w + 1) _ _ _ (by omega) ⟨by omega, by first | (rw [nfc_t (P := MFB J b d x) (u := w) (by omega) (or_l (up_e hg (by omega) (by omega)) (by omega))]; omega) | (rw [nfc_f (P := MFB J b d x) (u := w) (by omega) (or_r (up_e hg (by omega) (by omega)) (by omega))]; omega)⟩ ⟨by omega, by first | (rw [lf_a (P := MFB J b d x) (u := w) (by omega) (or_r (up_e hg (by omega) (by omega)) (by omega))]; exact he.2) | (rw [lf_b (P := MFB J b d x) (u := w) (by omega) (or_l (up_e hg (by omega) (by omega)) (by omega)) ((nl_fc (P := MFB J b d x) _).1 (by omega))]) | (rw [lf_c (P := MFB J b d x) (u := w) (by omega) (fun w9 => absurd ((nl_fc (P := MFB J b d x) _).2 w9) (by omega))]; exact he.2)⟩ (by omega) (f171_up f1)
                · refine tz_goto (pc := 97) (tgt := 112) dX12_fits_97 (by decide) ?_
                  refine tz_iinc (pc := 112) (z := w + 1) (L2 := [_, _, _, _, _, _, _, _, _]) dX12_fits_112 rfl (by omega) rfl ?_
                  refine tz_goto (pc := 115) (tgt := 16) dX12_fits_115 (by decide) ?_
                  exact ih16 _ _ (w + 1) _ _ _ (by omega) ⟨by omega, by first | (rw [nfc_t (P := MFB J b d x) (u := w) (by omega) (or_l (up_e hg (by omega) (by omega)) (by omega))]; omega) | (rw [nfc_f (P := MFB J b d x) (u := w) (by omega) (or_r (up_e hg (by omega) (by omega)) (by omega))]; omega)⟩ ⟨by omega, by first | (rw [lf_a (P := MFB J b d x) (u := w) (by omega) (or_r (up_e hg (by omega) (by omega)) (by omega))]; exact he.2) | (rw [lf_b (P := MFB J b d x) (u := w) (by omega) (or_l (up_e hg (by omega) (by omega)) (by omega)) ((nl_fc (P := MFB J b d x) _).1 (by omega))]) | (rw [lf_c (P := MFB J b d x) (u := w) (by omega) (fun w9 => absurd ((nl_fc (P := MFB J b d x) _).2 w9) (by omega))]; exact he.2)⟩ (by omega) (f171_up f1)
              · refine tz_aload_n (pc := 54) dX12_fits_54 rfl rfl ?_
                refine tz_aload_n (pc := 55) dX12_fits_55 rfl rfl ?_
                refine tz_fR (pc := 56) dX12_fits_56 fl_X12_9 r_164_0 ?_
                refine tz_bipush (pc := 59) dX12_fits_59 (by decide) ?_
                refine tz_iconst (pc := 61) dX12_fits_61 ?_
                refine tz_iload (pc := 62) dX12_fits_62 rfl ?_
                refine tz_imul (pc := 64) (v := 2 * k) dX12_fits_64 rfl ?_
                refine tz_iadd (pc := 65) (v := 10 + (2 * k)) dX12_fits_65 rfl ?_
                refine tz_aL (pc := 66) (z := (10 + (2 * k))) (v := (J 165 (10 + (2 * k)))) dX12_fits_66 a_165 rfl (by omega) (Eq.trans (congrFun (f1.1 165 rfl) (10 + (2 * k))) rfl) (fun r_66 => ?_)
                refine tz_aload_n (pc := 67) dX12_fits_67 rfl rfl ?_
                refine tz_fR (pc := 68) dX12_fits_68 fl_X12_9 r_164_0 ?_
                refine tz_bipush (pc := 71) dX12_fits_71 (by decide) ?_
                refine tz_iconst (pc := 73) dX12_fits_73 ?_
                refine tz_iload (pc := 74) dX12_fits_74 rfl ?_
                refine tz_imul (pc := 76) (v := 2 * k) dX12_fits_76 rfl ?_
                refine tz_iadd (pc := 77) (v := 10 + (2 * k)) dX12_fits_77 rfl ?_
                refine tz_iconst (pc := 78) dX12_fits_78 ?_
                refine tz_iadd (pc := 79) (v := (10 + (2 * k)) + 1) dX12_fits_79 rfl ?_
                refine tz_aL (pc := 80) (z := ((10 + (2 * k)) + 1)) (v := (J 165 ((10 + (2 * k)) + 1))) dX12_fits_80 a_165 rfl (by omega) (Eq.trans (congrFun (f1.1 165 rfl) ((10 + (2 * k)) + 1)) rfl) (fun r_80 => ?_)
                have hr9 := hR.2 k (by omega) (by omega)
                refine tz_cV (pc := 81) (x_greater hl n _ _ _ (by omega) (by omega) b r d s m (hM.c1 (f171_up (v := w) f1).1 (by decide)) (by omega) (by omega) (fun k9 a9 c9 => by show 1 ≤ (if d + k9 = x then w else J1 171 (d + k9)) ∧ (if d + k9 = x then w else J1 171 (d + k9)) ≤ 9; by_cases e9 : d + k9 = x; (rw [if_pos e9]; omega); (rw [if_neg e9, f1.2 _ e9]; exact hw9 k9 a9 c9))) vl_X12_142 dX12_fits_81 o_164 rfl rfl (Nat.le_of_ble_eq_true rfl) ⟨(Nat.le_of_ble_eq_true rfl), (Nat.le_of_ble_eq_true rfl)⟩ rfl rfl (Nat.le_of_ble_eq_true rfl) (Nat.le_of_ble_eq_true rfl) (fun r9 J_81 hq9 => ?_)
                obtain ⟨z_81, rfl, hz_81, rfl, b2⟩ := hq9
                rw [f171_w f1] at b2
                refine tz_istore (pc := 84) (L2 := [_, _, _, _, _, _, _, _, _]) dX12_fits_84 (by decide) rfl ?_
                refine tz_iinc (pc := 86) (z := k + 1) (L2 := [_, _, _, _, _, _, _, _, _]) dX12_fits_86 rfl (by omega) rfl ?_
                refine tz_goto (pc := 89) (tgt := 37) dX12_fits_89 (by decide) ?_
                exact ih37 _ (k + 1) (by omega) (up_b (P := MFp J b d x w) b2 hg (by omega) (by omega)) (by omega)
        exact loop37 _ 1 0 (Nat.lt_succ_self _) upu_0 (by omega)
  exact loop16 _ 0 (-1) 1 none none _ (Nat.lt_succ_self _) ⟨by omega, rfl⟩ ⟨by omega, rfl⟩ (by omega) ⟨zOf.rf, fun _ _ => rfl⟩

set_option maxHeartbeats 4000000 in
set_option maxRecDepth 100000 in
theorem m_right4 {l : Launch} {G : tb_G} (hl : l.stackTraces = false) (n : Nat) (J : zJ) (x : Int) (y : Int) (hr_x : -2147483648 ≤ x ∧ x < 2147483648) (hr_y : -2147483648 ≤ y ∧ y < 2147483648)  (hy : ¬ y = 0) : tz_Ok l G M_X12_right 0 0 0 [.ref 164, zi x, zi y] n J (zqi (fun z J' => (zOf (zbut [164]) J' J ∧ ∀ k, ¬ k = 8 → J' 164 k = J 164 k) ∧ (z = 0 ∨ z = 1) ∧ (z = 1 → J = J' ∧ J 164 8 = 0 ∧ (¬ x = 0 ∨ y = 0)) ∧ (J 164 8 = 0 → (z = 0 → J' 164 8 = y ∧ x = 0) ∧ (z = 1 → J' 164 8 = 0 ∧ ¬ x = 0)))) zN := by
  refine tz_Ok.of hl (by decide +kernel) rfl (tb_c1 rfl) (Nat.le_of_ble_eq_true rfl) ?_
  show tz_At l G M_X12_right (tb_rm 0 0 0) none (tb_ZM G 0 0 (zQ n 0 (zqi (fun z J' => (zOf (zbut [164]) J' J ∧ ∀ k, ¬ k = 8 → J' 164 k = J 164 k) ∧ (z = 0 ∨ z = 1) ∧ (z = 1 → J = J' ∧ J 164 8 = 0 ∧ (¬ x = 0 ∨ y = 0)) ∧ (J 164 8 = 0 → (z = 0 → J' 164 8 = y ∧ x = 0) ∧ (z = 1 → J' 164 8 = 0 ∧ ¬ x = 0))))) (zX n 0 zN)) 0 0 n J 0 [some (.ref 164), some (zi x), some (zi y)] []
  refine tz_aload_n (pc := 0) dX12_right_0 rfl rfl ?_
  refine tz_fI (pc := 1) (kz := 8) (v := (J 164 8)) dX12_right_1 fl_X12_68 i_164_8 rfl rfl (fun r_1 => ?_)
  refine tz_if_ne (pc := 4) (tgt := 16) dX12_right_4 (by decide) (by omega) (fun h_4 => ?_) (fun h_4 => ?_)
  · refine tz_aload_n (pc := 16) dX12_right_16 rfl rfl ?_
    refine tz_fI (pc := 17) (kz := 8) (v := (J 164 8)) dX12_right_17 fl_X12_68 i_164_8 rfl rfl (fun r_17 => ?_)
    refine tz_if_ne (pc := 20) (tgt := 27) dX12_right_20 (by decide) (by omega) (fun h_20 => ?_) (fun h_20 => ?_)
    · refine tz_iconst (pc := 27) dX12_right_27 ?_
      exact tz_zret (pc := 28) (z := 0) dX12_right_28 rfl (Or.inl rfl) (Nat.le_of_ble_eq_true rfl) (Nat.le_of_ble_eq_true rfl) ⟨Nat.le_refl _, Nat.le_add_right _ _⟩ ⟨_, rfl, (by decide), ⟨⟨zOf.rf, fun _ _ => rfl⟩, by omega, fun q9 => ⟨rfl, by omega, by omega⟩, fun w9 => ⟨fun q9 => by omega, fun q9 => by omega⟩⟩⟩
    · refine tz_iconst (pc := 23) dX12_right_23 ?_
      refine tz_goto (pc := 24) (tgt := 28) dX12_right_24 (by decide) ?_
      exact tz_zret (pc := 28) (z := 1) dX12_right_28 rfl (Or.inr rfl) (Nat.le_of_ble_eq_true rfl) (Nat.le_of_ble_eq_true rfl) ⟨Nat.le_refl _, Nat.le_add_right _ _⟩ ⟨_, rfl, (by decide), ⟨⟨zOf.rf, fun _ _ => rfl⟩, by omega, fun q9 => ⟨rfl, by omega, by omega⟩, fun w9 => ⟨fun q9 => absurd q9 (by omega), fun q9 => ⟨by omega, by omega⟩⟩⟩⟩
  · refine tz_iload_n (pc := 7) dX12_right_7 rfl rfl ?_
    refine tz_if_ne (pc := 8) (tgt := 16) dX12_right_8 (by decide) (by omega) (fun h_8 => ?_) (fun h_8 => ?_)
    · refine tz_aload_n (pc := 16) dX12_right_16 rfl rfl ?_
      refine tz_fI (pc := 17) (kz := 8) (v := (J 164 8)) dX12_right_17 fl_X12_68 i_164_8 rfl rfl (fun r_17 => ?_)
      refine tz_if_ne (pc := 20) (tgt := 27) dX12_right_20 (by decide) (by omega) (fun h_20 => ?_) (fun h_20 => ?_)
      · refine tz_iconst (pc := 27) dX12_right_27 ?_
        exact tz_zret (pc := 28) (z := 0) dX12_right_28 rfl (Or.inl rfl) (Nat.le_of_ble_eq_true rfl) (Nat.le_of_ble_eq_true rfl) ⟨Nat.le_refl _, Nat.le_add_right _ _⟩ ⟨_, rfl, (by decide), ⟨⟨zOf.rf, fun _ _ => rfl⟩, by omega, fun q9 => ⟨rfl, by omega, by omega⟩, fun w9 => ⟨fun q9 => by omega, fun q9 => by omega⟩⟩⟩
      · refine tz_iconst (pc := 23) dX12_right_23 ?_
        refine tz_goto (pc := 24) (tgt := 28) dX12_right_24 (by decide) ?_
        exact tz_zret (pc := 28) (z := 1) dX12_right_28 rfl (Or.inr rfl) (Nat.le_of_ble_eq_true rfl) (Nat.le_of_ble_eq_true rfl) ⟨Nat.le_refl _, Nat.le_add_right _ _⟩ ⟨_, rfl, (by decide), ⟨⟨zOf.rf, fun _ _ => rfl⟩, by omega, fun q9 => ⟨rfl, by omega, by omega⟩, fun w9 => ⟨fun q9 => absurd q9 (by omega), fun q9 => ⟨by omega, by omega⟩⟩⟩⟩
    · refine tz_aload_n (pc := 11) dX12_right_11 rfl rfl ?_
      refine tz_iload_n (pc := 12) dX12_right_12 rfl rfl ?_
      refine tz_pI (pc := 13) (kz := 8) dX12_right_13 fl_X12_68 i_164_8 rfl rfl (by omega) ?_
      refine tz_aload_n (pc := 16) dX12_right_16 rfl rfl ?_
      refine tz_fI (pc := 17) (kz := 8) (v := y) dX12_right_17 fl_X12_68 i_164_8 rfl rfl (fun r_17 => ?_)
      refine tz_if_ne (pc := 20) (tgt := 27) dX12_right_20 (by decide) (by omega) (fun h_20 => ?_) (fun h_20 => ?_)
      · refine tz_iconst (pc := 27) dX12_right_27 ?_
        exact tz_zret (pc := 28) (z := 0) dX12_right_28 rfl (Or.inl rfl) (Nat.le_of_ble_eq_true rfl) (Nat.le_of_ble_eq_true rfl) ⟨Nat.le_refl _, Nat.le_add_right _ _⟩ ⟨_, rfl, (by decide), ⟨⟨zOf.up rfl zOf.rf, fun k hk => zup_ne hk⟩, by omega, fun q9 => by omega, fun w9 => ⟨fun q9 => ⟨zup_at, by omega⟩, fun q9 => by omega⟩⟩⟩
      · refine tz_iconst (pc := 23) dX12_right_23 ?_
        refine tz_goto (pc := 24) (tgt := 28) dX12_right_24 (by decide) ?_
        exact tz_zret (pc := 28) (z := 1) dX12_right_28 rfl (Or.inr rfl) (Nat.le_of_ble_eq_true rfl) (Nat.le_of_ble_eq_true rfl) ⟨Nat.le_refl _, Nat.le_add_right _ _⟩ ⟨_, rfl, (by decide), ⟨⟨zOf.up rfl zOf.rf, fun k hk => zup_ne hk⟩, by omega, fun q9 => by omega, fun w9 => ⟨fun q9 => ⟨zup_at, by omega⟩, fun q9 => by omega⟩⟩⟩

set_option maxHeartbeats 4000000 in
set_option maxRecDepth 100000 in
theorem e_qsymbol {l : Launch} {G : tb_G} (hl : l.stackTraces = false) (n : Nat) (J : zJ) (x : Int) (y : Int) (hr_x : -2147483648 ≤ x ∧ x < 2147483648) (hr_y : -2147483648 ≤ y ∧ y < 2147483648) (m : Int) (pn : Int) (RR : Int → Int → Int) (hI : MI J m) (u9 : MUr J pn RR) (hw9 : ∀ k, 0 ≤ k → k < J 164 9 → 1 ≤ J 171 (0 + k) ∧ J 171 (0 + k) ≤ 9) : tz_Ok l G M_X12_symbol 21 0 0 [.ref 164, zi x, zi y] n J (zqi (fun z J' => MQr J' J ∧ MFI J' J ∧ MBT J' (tbz J) ∧ MUr J' pn RR ∧ J' 183 = J 183 ∧ ((J' 164 8 = 0 ∧ ((0 ≤ x ∧ x < J 164 9) ∧ 0 ≤ y ∧ y ≤ 4) ∧ ((y = 0 → z = J 169 x) ∧ (y = 1 → z = J 170 x) ∧ (y = 2 → z = J 171 x) ∧ (y = 3 → z = nfc (MFB J 0 0 x) 9) ∧ (y = 4 → z = lfc (MFB J 0 0 x) 9))) ∨ (J' 164 8 = 1 ∧ ¬ ((0 ≤ x ∧ x < J 164 9) ∧ 0 ≤ y ∧ y ≤ 4))))) zN := by
  refine tz_Ok.of hl (by decide +kernel) rfl (tb_c1 rfl) (Nat.le_of_ble_eq_true rfl) ?_
  show tz_At l G M_X12_symbol (tb_rm 21 0 0) none (tb_ZM G 0 0 (zQ n 0 (zqi (fun z J' => MQr J' J ∧ MFI J' J ∧ MBT J' (tbz J) ∧ MUr J' pn RR ∧ J' 183 = J 183 ∧ ((J' 164 8 = 0 ∧ ((0 ≤ x ∧ x < J 164 9) ∧ 0 ≤ y ∧ y ≤ 4) ∧ ((y = 0 → z = J 169 x) ∧ (y = 1 → z = J 170 x) ∧ (y = 2 → z = J 171 x) ∧ (y = 3 → z = nfc (MFB J 0 0 x) 9) ∧ (y = 4 → z = lfc (MFB J 0 0 x) 9))) ∨ (J' 164 8 = 1 ∧ ¬ ((0 ≤ x ∧ x < J 164 9) ∧ 0 ≤ y ∧ y ≤ 4)))))) (zX n 0 zN)) 0 0 n J 0 [some (.ref 164), some (zi x), some (zi y)] []
  have hT := hI.told
  have hW := hI.row
  have hM := hI.1
  have hL := hI.2.1
  refine tz_aload_n (pc := 0) dX12_symbol_0 rfl rfl ?_
  refine tz_iconst (pc := 1) dX12_symbol_1 ?_
  refine tz_pI (pc := 2) (kz := 8) dX12_symbol_2 fl_X12_68 i_164_8 rfl rfl (by decide) ?_
  refine tz_aload_n (pc := 5) dX12_symbol_5 rfl rfl ?_
  refine tz_aload_n (pc := 6) dX12_symbol_6 rfl rfl ?_
  refine tz_iload_n (pc := 7) dX12_symbol_7 rfl rfl ?_
  refine tz_cV (pc := 8) (m_isSym hl n _ _ (by omega) (by rw [(show ((zup J 164 8 0) : zJ) 164 9 = (J 164 9) from rfl)]; omega)) vl_X12_369 dX12_symbol_8 o_164 rfl rfl (Nat.le_of_ble_eq_true rfl) ⟨(Nat.le_of_ble_eq_true rfl), (Nat.le_of_ble_eq_true rfl)⟩ rfl rfl (Nat.le_of_ble_eq_true rfl) (Nat.le_of_ble_eq_true rfl) (fun r9 J_8 hq9 => ?_)
  obtain ⟨z_8, rfl, hz_8, rfl, ht_8⟩ := hq9
  rw [(show ((zup J 164 8 0) : zJ) 164 9 = (J 164 9) from rfl)] at ht_8
  refine tz_if_eq (pc := 11) (tgt := 27) dX12_symbol_11 (by decide) (by omega) (fun h_11 => ?_) (fun h_11 => ?_)
  · refine tz_iconst (pc := 27) dX12_symbol_27 ?_
    refine tz_iconst (pc := 28) dX12_symbol_28 ?_
    refine tz_cV (pc := 29) (m_right4 hl n _ _ _ (by decide) (by decide) (by decide)) vl_X12_334 dX12_symbol_29 o_164 rfl rfl (Nat.le_of_ble_eq_true rfl) ⟨(Nat.le_of_ble_eq_true rfl), (Nat.le_of_ble_eq_true rfl)⟩ rfl rfl (Nat.le_of_ble_eq_true rfl) (Nat.le_of_ble_eq_true rfl) (fun r9 J_29 hq9 => ?_)
    obtain ⟨z_29, rfl, hz_29, f_29, b_29, c_29, w_29⟩ := hq9
    have v_29 := w_29 zup_at
    have x_29 : MZ J_29 (zup J 164 8 0) := MZ.f f_29 (by decide) (by decide)
    have y_29 := MZ.tr (MZ.up (k := 8) MZ.rf (by decide)) x_29
    obtain rfl : z_29 = 0 := by rcases b_29 with e9 | e9; exact e9; exact absurd (c_29 e9).2.2 (by decide)
    refine tz_if_neF (pc := 32) (tgt := 37) (by decide) dX12_symbol_32 (by decide) (by decide) ?_
    refine tz_iconst (pc := 35) dX12_symbol_35 ?_
    exact tz_iret (pc := 36) (z := 0) dX12_symbol_36 rfl (Nat.le_of_ble_eq_true rfl) (Nat.le_of_ble_eq_true rfl) ⟨Nat.le_refl _, Nat.le_add_right _ _⟩ ⟨_, rfl, (by decide), ⟨MQr.z hI y_29, MFI.z y_29, MBT.z hI y_29, u9.z y_29, y_29.1 183 rfl, by first | exact Or.inl ⟨(v_29.2 (by omega)).1, by omega, ⟨(fun q9 => by first | exact absurd q9 (by omega) | rfl), (fun q9 => by first | exact absurd q9 (by omega) | rfl), (fun q9 => by first | exact absurd q9 (by omega) | rfl), (fun q9 => by first | exact absurd q9 (by omega) | exact hh_0.trans (if_pos (by omega))), (fun q9 => by first | exact absurd q9 (by omega) | exact hh_0.trans (if_neg (by omega)))⟩⟩ | exact Or.inr ⟨(v_29.1 (by omega)).1, by omega⟩⟩⟩
  · refine tz_iload_n (pc := 14) dX12_symbol_14 rfl rfl ?_
    refine tz_iconst (pc := 15) dX12_symbol_15 ?_
    refine tz_iconst (pc := 16) dX12_symbol_16 ?_
    refine tz_cS (pc := 17) (m_within hl n _ _ _ _ (by omega) (by decide) (by decide)) sl_X12_283 dX12_symbol_17 rfl rfl (Nat.le_of_ble_eq_true rfl) ⟨(Nat.le_of_ble_eq_true rfl), (Nat.le_of_ble_eq_true rfl)⟩ rfl rfl (Nat.le_of_ble_eq_true rfl) (Nat.le_of_ble_eq_true rfl) (fun r9 J_17 hq9 => ?_)
    obtain ⟨z_17, rfl, hz_17, rfl, hw_17⟩ := hq9
    refine tz_if_eq (pc := 20) (tgt := 27) dX12_symbol_20 (by decide) (by omega) (fun h_20 => ?_) (fun h_20 => ?_)
    · refine tz_iconst (pc := 27) dX12_symbol_27 ?_
      refine tz_iconst (pc := 28) dX12_symbol_28 ?_
      refine tz_cV (pc := 29) (m_right4 hl n _ _ _ (by decide) (by decide) (by decide)) vl_X12_334 dX12_symbol_29 o_164 rfl rfl (Nat.le_of_ble_eq_true rfl) ⟨(Nat.le_of_ble_eq_true rfl), (Nat.le_of_ble_eq_true rfl)⟩ rfl rfl (Nat.le_of_ble_eq_true rfl) (Nat.le_of_ble_eq_true rfl) (fun r9 J_29 hq9 => ?_)
      obtain ⟨z_29, rfl, hz_29, f_29, b_29, c_29, w_29⟩ := hq9
      have v_29 := w_29 zup_at
      have x_29 : MZ J_29 (zup J 164 8 0) := MZ.f f_29 (by decide) (by decide)
      have y_29 := MZ.tr (MZ.up (k := 8) MZ.rf (by decide)) x_29
      obtain rfl : z_29 = 0 := by rcases b_29 with e9 | e9; exact e9; exact absurd (c_29 e9).2.2 (by decide)
      refine tz_if_neF (pc := 32) (tgt := 37) (by decide) dX12_symbol_32 (by decide) (by decide) ?_
      refine tz_iconst (pc := 35) dX12_symbol_35 ?_
      exact tz_iret (pc := 36) (z := 0) dX12_symbol_36 rfl (Nat.le_of_ble_eq_true rfl) (Nat.le_of_ble_eq_true rfl) ⟨Nat.le_refl _, Nat.le_add_right _ _⟩ ⟨_, rfl, (by decide), ⟨MQr.z hI y_29, MFI.z y_29, MBT.z hI y_29, u9.z y_29, y_29.1 183 rfl, by first | exact Or.inl ⟨(v_29.2 (by omega)).1, by omega, ⟨(fun q9 => by first | exact absurd q9 (by omega) | rfl), (fun q9 => by first | exact absurd q9 (by omega) | rfl), (fun q9 => by first | exact absurd q9 (by omega) | rfl), (fun q9 => by first | exact absurd q9 (by omega) | exact hh_0.trans (if_pos (by omega))), (fun q9 => by first | exact absurd q9 (by omega) | exact hh_0.trans (if_neg (by omega)))⟩⟩ | exact Or.inr ⟨(v_29.1 (by omega)).1, by omega⟩⟩⟩
    · refine tz_iconst (pc := 23) dX12_symbol_23 ?_
      refine tz_goto (pc := 24) (tgt := 28) dX12_symbol_24 (by decide) ?_
      refine tz_iconst (pc := 28) dX12_symbol_28 ?_
      refine tz_cV (pc := 29) (m_right4 hl n _ _ _ (by decide) (by decide) (by decide)) vl_X12_334 dX12_symbol_29 o_164 rfl rfl (Nat.le_of_ble_eq_true rfl) ⟨(Nat.le_of_ble_eq_true rfl), (Nat.le_of_ble_eq_true rfl)⟩ rfl rfl (Nat.le_of_ble_eq_true rfl) (Nat.le_of_ble_eq_true rfl) (fun r9 J_29 hq9 => ?_)
      obtain ⟨z_29, rfl, hz_29, f_29, b_29, c_29, w_29⟩ := hq9
      have v_29 := w_29 zup_at
      have x_29 : MZ J_29 (zup J 164 8 0) := MZ.f f_29 (by decide) (by decide)
      have y_29 := MZ.tr (MZ.up (k := 8) MZ.rf (by decide)) x_29
      refine tz_if_ne (pc := 32) (tgt := 37) dX12_symbol_32 (by decide) (by omega) (fun h_32 => ?_) (fun h_32 => ?_)
      · refine tz_iload_n (pc := 37) dX12_symbol_37 rfl rfl ?_
        refine tz_if_ne (pc := 38) (tgt := 50) dX12_symbol_38 (by decide) (by omega) (fun h_38 => ?_) (fun h_38 => ?_)
        · refine tz_iload_n (pc := 50) dX12_symbol_50 rfl rfl ?_
          refine tz_iconst (pc := 51) dX12_symbol_51 ?_
          refine tz_icmp_ne (pc := 52) (tgt := 64) dX12_symbol_52 (by decide) (by omega) (by decide) (fun h_52 => ?_) (fun h_52 => ?_)
          · refine tz_iload_n (pc := 64) dX12_symbol_64 rfl rfl ?_
            refine tz_iconst (pc := 65) dX12_symbol_65 ?_
            refine tz_icmp_ne (pc := 66) (tgt := 78) dX12_symbol_66 (by decide) (by omega) (by decide) (fun h_66 => ?_) (fun h_66 => ?_)
            · refine tz_aload_n (pc := 78) dX12_symbol_78 rfl rfl ?_
              refine tz_iload_n (pc := 79) dX12_symbol_79 rfl rfl ?_
              refine tz_iload_n (pc := 80) dX12_symbol_80 rfl rfl ?_
              refine tz_iconst (pc := 81) dX12_symbol_81 ?_
              refine tz_icmp_ne (pc := 82) (tgt := 89) dX12_symbol_82 (by decide) (by omega) (by decide) (fun h_82 => ?_) (fun h_82 => ?_)
              · refine tz_iconst (pc := 89) dX12_symbol_89 ?_
                refine tz_cV (pc := 90) (e_qfits hl n _ _ _ (by omega) (by decide) 0 0 0 (J 164 9) m (hM.z y_29) (MR.z hL.1 y_29) (by omega) (by rw [y_29.1 171 rfl]; exact hw9)) vl_X12_372 dX12_symbol_90 o_164 rfl rfl (Nat.le_of_ble_eq_true rfl) ⟨(Nat.le_of_ble_eq_true rfl), (Nat.le_of_ble_eq_true rfl)⟩ rfl rfl (Nat.le_of_ble_eq_true rfl) (Nat.le_of_ble_eq_true rfl) (fun r9 J_90 hq9 => ?_)
                obtain ⟨z_90, rfl, hz_90, rfl, hh_90⟩ := hq9
                rw [MFB_c (y_29.1 165 rfl) (y_29.1 166 rfl) (y_29.1 167 rfl) (y_29.1 170 rfl) (y_29.1 171 rfl)] at hh_90
                exact tz_iret (pc := 93) (z := z_90) dX12_symbol_93 rfl (Nat.le_of_ble_eq_true rfl) (Nat.le_of_ble_eq_true rfl) ⟨Nat.le_refl _, Nat.le_add_right _ _⟩ ⟨_, rfl, (by omega), ⟨MQr.z hI y_29, MFI.z y_29, MBT.z hI y_29, u9.z y_29, y_29.1 183 rfl, by first | exact Or.inl ⟨(v_29.2 (by omega)).1, by omega, ⟨(fun q9 => by first | exact absurd q9 (by omega) | rfl), (fun q9 => by first | exact absurd q9 (by omega) | rfl), (fun q9 => by first | exact absurd q9 (by omega) | rfl), (fun q9 => by first | exact absurd q9 (by omega) | exact hh_90.trans (if_pos (by omega))), (fun q9 => by first | exact absurd q9 (by omega) | exact hh_90.trans (if_neg (by omega)))⟩⟩ | exact Or.inr ⟨(v_29.1 (by omega)).1, by omega⟩⟩⟩
              · refine tz_iconst (pc := 85) dX12_symbol_85 ?_
                refine tz_goto (pc := 86) (tgt := 90) dX12_symbol_86 (by decide) ?_
                refine tz_cV (pc := 90) (e_qfits hl n _ _ _ (by omega) (by decide) 0 0 0 (J 164 9) m (hM.z y_29) (MR.z hL.1 y_29) (by omega) (by rw [y_29.1 171 rfl]; exact hw9)) vl_X12_372 dX12_symbol_90 o_164 rfl rfl (Nat.le_of_ble_eq_true rfl) ⟨(Nat.le_of_ble_eq_true rfl), (Nat.le_of_ble_eq_true rfl)⟩ rfl rfl (Nat.le_of_ble_eq_true rfl) (Nat.le_of_ble_eq_true rfl) (fun r9 J_90 hq9 => ?_)
                obtain ⟨z_90, rfl, hz_90, rfl, hh_90⟩ := hq9
                rw [MFB_c (y_29.1 165 rfl) (y_29.1 166 rfl) (y_29.1 167 rfl) (y_29.1 170 rfl) (y_29.1 171 rfl)] at hh_90
                exact tz_iret (pc := 93) (z := z_90) dX12_symbol_93 rfl (Nat.le_of_ble_eq_true rfl) (Nat.le_of_ble_eq_true rfl) ⟨Nat.le_refl _, Nat.le_add_right _ _⟩ ⟨_, rfl, (by omega), ⟨MQr.z hI y_29, MFI.z y_29, MBT.z hI y_29, u9.z y_29, y_29.1 183 rfl, by first | exact Or.inl ⟨(v_29.2 (by omega)).1, by omega, ⟨(fun q9 => by first | exact absurd q9 (by omega) | rfl), (fun q9 => by first | exact absurd q9 (by omega) | rfl), (fun q9 => by first | exact absurd q9 (by omega) | rfl), (fun q9 => by first | exact absurd q9 (by omega) | exact hh_90.trans (if_pos (by omega))), (fun q9 => by first | exact absurd q9 (by omega) | exact hh_90.trans (if_neg (by omega)))⟩⟩ | exact Or.inr ⟨(v_29.1 (by omega)).1, by omega⟩⟩⟩
            · refine tz_aload_n (pc := 69) dX12_symbol_69 rfl rfl ?_
              refine tz_fR (pc := 70) dX12_symbol_70 fl_X12_28 r_164_6 ?_
              refine tz_iload_n (pc := 73) dX12_symbol_73 rfl rfl ?_
              refine tz_aL (pc := 74) (z := x) (v := (J 171 x)) dX12_symbol_74 a_171 rfl (by omega) (Eq.trans (congrFun (x_29.1 171 rfl) x) rfl) (fun r_74 => ?_)
              refine tz_goto (pc := 75) (tgt := 93) dX12_symbol_75 (by decide) ?_
              exact tz_iret (pc := 93) (z := (J 171 x)) dX12_symbol_93 rfl (Nat.le_of_ble_eq_true rfl) (Nat.le_of_ble_eq_true rfl) ⟨Nat.le_refl _, Nat.le_add_right _ _⟩ ⟨_, rfl, (by omega), ⟨MQr.z hI y_29, MFI.z y_29, MBT.z hI y_29, u9.z y_29, y_29.1 183 rfl, by first | exact Or.inl ⟨(v_29.2 (by omega)).1, by omega, ⟨(fun q9 => by first | exact absurd q9 (by omega) | rfl), (fun q9 => by first | exact absurd q9 (by omega) | rfl), (fun q9 => by first | exact absurd q9 (by omega) | rfl), (fun q9 => by first | exact absurd q9 (by omega) | exact hh_0.trans (if_pos (by omega))), (fun q9 => by first | exact absurd q9 (by omega) | exact hh_0.trans (if_neg (by omega)))⟩⟩ | exact Or.inr ⟨(v_29.1 (by omega)).1, by omega⟩⟩⟩
          · refine tz_aload_n (pc := 55) dX12_symbol_55 rfl rfl ?_
            refine tz_fR (pc := 56) dX12_symbol_56 fl_X12_25 r_164_5 ?_
            refine tz_iload_n (pc := 59) dX12_symbol_59 rfl rfl ?_
            refine tz_aL (pc := 60) (z := x) (v := (J 170 x)) dX12_symbol_60 a_170 rfl (by omega) (Eq.trans (congrFun (x_29.1 170 rfl) x) rfl) (fun r_60 => ?_)
            refine tz_goto (pc := 61) (tgt := 93) dX12_symbol_61 (by decide) ?_
            exact tz_iret (pc := 93) (z := (J 170 x)) dX12_symbol_93 rfl (Nat.le_of_ble_eq_true rfl) (Nat.le_of_ble_eq_true rfl) ⟨Nat.le_refl _, Nat.le_add_right _ _⟩ ⟨_, rfl, (by omega), ⟨MQr.z hI y_29, MFI.z y_29, MBT.z hI y_29, u9.z y_29, y_29.1 183 rfl, by first | exact Or.inl ⟨(v_29.2 (by omega)).1, by omega, ⟨(fun q9 => by first | exact absurd q9 (by omega) | rfl), (fun q9 => by first | exact absurd q9 (by omega) | rfl), (fun q9 => by first | exact absurd q9 (by omega) | rfl), (fun q9 => by first | exact absurd q9 (by omega) | exact hh_0.trans (if_pos (by omega))), (fun q9 => by first | exact absurd q9 (by omega) | exact hh_0.trans (if_neg (by omega)))⟩⟩ | exact Or.inr ⟨(v_29.1 (by omega)).1, by omega⟩⟩⟩
        · refine tz_aload_n (pc := 41) dX12_symbol_41 rfl rfl ?_
          refine tz_fR (pc := 42) dX12_symbol_42 fl_X12_22 r_164_4 ?_
          refine tz_iload_n (pc := 45) dX12_symbol_45 rfl rfl ?_
          refine tz_aL (pc := 46) (z := x) (v := (J 169 x)) dX12_symbol_46 a_169 rfl (by omega) (Eq.trans (congrFun (x_29.1 169 rfl) x) rfl) (fun r_46 => ?_)
          refine tz_goto (pc := 47) (tgt := 93) dX12_symbol_47 (by decide) ?_
          exact tz_iret (pc := 93) (z := (J 169 x)) dX12_symbol_93 rfl (Nat.le_of_ble_eq_true rfl) (Nat.le_of_ble_eq_true rfl) ⟨Nat.le_refl _, Nat.le_add_right _ _⟩ ⟨_, rfl, (by omega), ⟨MQr.z hI y_29, MFI.z y_29, MBT.z hI y_29, u9.z y_29, y_29.1 183 rfl, by first | exact Or.inl ⟨(v_29.2 (by omega)).1, by omega, ⟨(fun q9 => by first | exact absurd q9 (by omega) | rfl), (fun q9 => by first | exact absurd q9 (by omega) | rfl), (fun q9 => by first | exact absurd q9 (by omega) | rfl), (fun q9 => by first | exact absurd q9 (by omega) | exact hh_0.trans (if_pos (by omega))), (fun q9 => by first | exact absurd q9 (by omega) | exact hh_0.trans (if_neg (by omega)))⟩⟩ | exact Or.inr ⟨(v_29.1 (by omega)).1, by omega⟩⟩⟩
      · refine tz_iconst (pc := 35) dX12_symbol_35 ?_
        exact tz_iret (pc := 36) (z := 0) dX12_symbol_36 rfl (Nat.le_of_ble_eq_true rfl) (Nat.le_of_ble_eq_true rfl) ⟨Nat.le_refl _, Nat.le_add_right _ _⟩ ⟨_, rfl, (by decide), ⟨MQr.z hI y_29, MFI.z y_29, MBT.z hI y_29, u9.z y_29, y_29.1 183 rfl, by first | exact Or.inl ⟨(v_29.2 (by omega)).1, by omega, ⟨(fun q9 => by first | exact absurd q9 (by omega) | rfl), (fun q9 => by first | exact absurd q9 (by omega) | rfl), (fun q9 => by first | exact absurd q9 (by omega) | rfl), (fun q9 => by first | exact absurd q9 (by omega) | exact hh_0.trans (if_pos (by omega))), (fun q9 => by first | exact absurd q9 (by omega) | exact hh_0.trans (if_neg (by omega)))⟩⟩ | exact Or.inr ⟨(v_29.1 (by omega)).1, by omega⟩⟩⟩

/-! ===== they meet ===== -/
theorem ask_eqR {za zb t8 ra : Int} {C C2 : Prop} {P Q : Int → Prop} (hc : C ↔ C2) (hv : C → ∀ p q, P p → Q q → p = q) (a : (za = 0 ∧ C ∧ P ra) ∨ (za = 1 ∧ ¬ C)) (b : (t8 = 0 ∧ C2 ∧ Q zb) ∨ (t8 = 1 ∧ ¬ C2)) : t8 = za ∧ (za = 0 → ra = zb) := by
  rcases a with ⟨a1, a2, a3⟩ | ⟨a1, a2⟩ <;> rcases b with ⟨b1, b2, b3⟩ | ⟨b1, b2⟩
  · exact ⟨b1.trans a1.symm, fun _ => hv a2 _ _ a3 b3⟩
  · exact absurd (hc.1 a2) b2
  · exact absurd (hc.2 b2) a2
  · exact ⟨b1.trans a1.symm, fun w => absurd (w.symm.trans a1) (by decide)⟩
theorem xgt_ma {J : zJ} {m u t s w : Int} (E : A0 J (tbz J)) (C : CT J m) (hm : J 6 12 = m) (hu : 0 ≤ u ∧ u < m) (ht : 0 ≤ t ∧ t < m) : xgt J s w 6 u t ↔ mgt (zup J 171 s w) 0 0 6 u t := by
  obtain ⟨m1, m2⟩ := ma_all E C hm
  have T := C.told
  have e1' : J 1 3 = J 164 9 := E.1.1
  have h6 : ∀ t, 0 ≤ t → t < m → zup J 171 s w 166 (0 + t) = J 7 t := fun t a c => (m1 t a c).1
  have ha : ∀ t, 0 ≤ t → t < m → mar (zup J 171 s w) 0 0 t = J 8 t := fun t a c => (m1 t a c).2.1
  have hg : ∀ t, 0 ≤ t → t < m → ∀ i, 0 ≤ i → i < J 8 t → mag (zup J 171 s w) 0 t i = cag J t i := m2
  have hgw : ∀ t, 0 ≤ t → t < m → mgw (zup J 171 s w) 0 0 t = xgw J s w t := fun t a c => by
    have h7 := (C.ar a c).2.2
    show (if J 166 (0 + t) < 0 then 1 else if 0 + J 166 (0 + t) = s then w else J 171 (0 + J 166 (0 + t))) = if J 7 t < 0 then 1 else if J 7 t = s then w else J 4 (J 7 t)
    rw [(m1 t a c).1]
    by_cases h0 : J 7 t < 0
    · rw [if_pos h0, if_pos h0]
    · rw [if_neg h0, if_neg h0, Int.zero_add]
      by_cases h1 : J 7 t = s
      · rw [if_pos h1, if_pos h1]
      · rw [if_neg h1, if_neg h1]
        have q := (E.1.2 (J 7 t) (by omega) (show J 7 t < J 164 9 by omega)).2.2
        rw [show tbz J 171 (0 + J 7 t) = J 171 (0 + J 7 t) from if_pos ⟨by omega, by omega⟩, Int.zero_add] at q
        exact q.symm
  have hgc : ∀ v t, 0 ≤ t → t < m → mgc (zup J 171 s w) 0 v t = cgc J v t := fun v t a c => by
    unfold mgc cgc
    rw [h6 t a c]
  have hw : ∀ t, 0 ≤ t → t < m → mwt (zup J 171 s w) 0 0 t = xwt J s w t := fun t a c => sV_cg C.td hgw ha hg 6 t ⟨a, c⟩
  have hc : ∀ v t, 0 ≤ v → v < 8 → 0 ≤ t → t < m → mcn (zup J 171 s w) 0 0 v t = ccn J v t := fun v t _ _ a c => sV_cg C.td (hgc v) ha hg 6 t ⟨a, c⟩
  have hx : ∀ s t, 0 ≤ s → s < m → 0 ≤ t → t < m → J 7 s = J 7 t → J 8 s = J 8 t := fun s t a b c d e => by rw [(C.2.1 s a b).1.1, (C.2.1 t c d).1.1, e]
  have hgt := gtP_cg (cn := ccn J) (cn' := mcn (zup J 171 s w) 0 0) (wt := xwt J s w) (wt' := mwt (zup J 171 s w) 0 0) (hd := J 7) (hd' := fun t => zup J 171 s w 166 (0 + t)) C.td hc hw h6 ha hg hx 6 u t hu ht
  unfold mgt xgt
  exact ⟨fun b => hgt.2 b, fun b => hgt.1 b⟩
theorem fit_ma {J : zJ} {n m s : Int} {R : Int → Int → Int} (c0 : CAL J (tbz J) n R) (hI : CI J m) (v : RVC J) (u : Int) : TFB J s u ↔ MFB J 0 0 s u := by
  have C := hI.1.1.1
  have hm := hI.1.1.2.1
  have l := hI.1.1.2.2
  have l4 := l.1.2.1
  have z5 : ∀ k, 0 ≤ k → k < 63 → tbz J 165 k = J 165 k := fun k a b => if_pos ⟨a, b⟩
  obtain ⟨w1, w2⟩ := c0.2.1.2.1
  rw [z5 9 (by decide) (by decide)] at w1
  have e : ∀ j, 0 ≤ j → j < J 19 4 → (TFp J s u j ↔ MFp J 0 0 s u j) := fun j a b => by
    obtain ⟨q1, q2⟩ := w2 j a (by rw [z5 9 (by decide) (by decide)]; omega)
    rw [z5 (10 + 2 * j) (by omega) (by omega)] at q1
    rw [z5 (10 + 2 * j + 1) (by omega) (by omega)] at q2
    obtain ⟨v1, v2, v3⟩ := v.1 j a b
    obtain ⟨l1, l2⟩ := l.2.2.1 j a b
    unfold TFp MFp xru
    rw [← q1, ← q2, ← xgt_ma c0.1 C hm l1 l2]
    exact ⟨fun w => w.2.1, fun w => ⟨v1, w, v2, v3⟩⟩
  unfold TFB MFB
  rw [← w1]
  exact ⟨fun w j a b => (e j a b).1 (w j a b), fun w j a b => (e j a b).2 (w j a b)⟩
theorem ask_symbol {J J1 : zJ} {n m a b : Int} {R : Int → Int → Int} (c0 : CAL J (tbz J) n R) (hI : CI J m) (v : RVC J) (f : ∀ q, 164 ≤ q → q < 183 → J1 q = J q) : (((0 ≤ a ∧ a < J 1 3) ∧ 0 ≤ b ∧ b ≤ 4) ↔ ((0 ≤ a ∧ a < J1 164 9) ∧ 0 ≤ b ∧ b ≤ 4)) ∧ (((0 ≤ a ∧ a < J 1 3) ∧ 0 ≤ b ∧ b ≤ 4) → ∀ p q, ((b = 0 → p = J 2 a) ∧ (b = 1 → p = J 3 a) ∧ (b = 2 → p = J 4 a) ∧ (b = 3 → p = nfc (TFB J a) 9) ∧ (b = 4 → p = lfc (TFB J a) 9)) → ((b = 0 → q = J1 169 a) ∧ (b = 1 → q = J1 170 a) ∧ (b = 2 → q = J1 171 a) ∧ (b = 3 → q = nfc (MFB J1 0 0 a) 9) ∧ (b = 4 → q = lfc (MFB J1 0 0 a) 9)) → p = q) := by
  have e1 : J 1 3 = J 164 9 := c0.1.1.1
  have T := hI.1.1.1.told
  have g4 := f 164 (by decide) (by decide)
  have gm : MFB J1 0 0 a = MFB J 0 0 a := MFB_c (f 165 (by decide) (by decide)) (f 166 (by decide) (by decide)) (f 167 (by decide) (by decide)) (f 170 (by decide) (by decide)) (f 171 (by decide) (by decide))
  rw [g4, gm, f 169 (by decide) (by decide), f 170 (by decide) (by decide), f 171 (by decide) (by decide)]
  refine ⟨by omega, fun q9 p q P Q => ?_⟩
  obtain ⟨qa, qb⟩ := q9
  have w := c0.1.1.2 a qa.1 (show a < J 164 9 by omega)
  rw [show tbz J 169 (0 + a) = J 169 (0 + a) from if_pos ⟨by omega, by omega⟩, show tbz J 170 (0 + a) = J 170 (0 + a) from if_pos ⟨by omega, by omega⟩, show tbz J 171 (0 + a) = J 171 (0 + a) from if_pos ⟨by omega, by omega⟩, Int.zero_add] at w
  obtain ⟨P0, P1, P2, P3, P4⟩ := P
  obtain ⟨Q0, Q1, Q2, Q3, Q4⟩ := Q
  rcases (show b = 0 ∨ b = 1 ∨ b = 2 ∨ b = 3 ∨ b = 4 by omega) with e | e | e | e | e
  · rw [P0 e, Q0 e, w.1]
  · rw [P1 e, Q1 e, w.2.1]
  · rw [P2 e, Q2 e, w.2.2]
  · rw [P3 e, Q3 e]
    exact nfc_cg 9 (fun u _ _ => fit_ma c0 hI v u)
  · rw [P4 e, Q4 e]
    exact lfc_cg 9 (fun u _ _ => fit_ma c0 hI v u)
