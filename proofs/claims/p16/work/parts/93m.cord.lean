/-! ===== the order of the class ===== -/
def cag (J : zJ) : Int → Int → Int := fun t i => J 9 (t * 3 + i)
def cgw (J : zJ) : Int → Int := fun t => if J 7 t < 0 then 1 else J 4 (J 7 t)
def cgc (J : zJ) (v : Int) : Int → Int := fun t => if J 7 t = -1 - v then 1 else 0
def cwt (J : zJ) : Int → Int := sV (cgw J) (J 8) (cag J)
def ccn (J : zJ) (v : Int) : Int → Int := sV (cgc J v) (J 8) (cag J)
def cgt (J : zJ) (k : Nat) (s t : Int) : Prop := gtP (ccn J) (cwt J) (J 7) (J 8) (cag J) k s t
theorem CT.td {J : zJ} {m : Int} (h : CT J m) : TD m (J 8) (cag J) (J 12) := fun t x y => ⟨(h.ar x y).1, (h.nums x y).2.2, fun i u v => h.arg x y u v⟩
theorem cwt_of {J' J : zJ} (f : zOf (zbut [156, 157]) J' J) : cwt J' = cwt J ∧ ccn J' = ccn J := by
  have e : ccn J' = ccn J := by
    funext v
    unfold ccn cgc cag
    rw [f 7 rfl, f 8 rfl, f 9 rfl]
  refine ⟨?_, e⟩
  unfold cwt cgw cag
  rw [f 4 rfl, f 7 rfl, f 8 rfl, f 9 rfl]
theorem cgw_rg {J : zJ} {m : Int} (h : CT J m) : ∀ t, 0 ≤ t → t < m → 0 ≤ cgw J t ∧ cgw J t ≤ 9 := fun t x y => by
  have h1 := (h.ar x y).2.2
  unfold cgw
  split
  · omega
  · have := h.1.2 (J 7 t) (by omega) (by omega)
    omega
theorem cgc_rg {J : zJ} {v m : Int} : ∀ t, 0 ≤ t → t < m → 0 ≤ cgc J v t ∧ cgc J v t ≤ 1 := fun t _ _ => by
  unfold cgc
  split <;> omega
theorem cwt_rg {J : zJ} {m t : Int} (h : CT J m) (ht : 0 ≤ t ∧ t < m) : 0 ≤ cwt J t ∧ cwt J t ≤ 9 * 364 := sV_rg h.td (cgw_rg h) ht
theorem ccn_rg {J : zJ} {m v t : Int} (h : CT J m) (ht : 0 ≤ t ∧ t < m) : 0 ≤ ccn J v t ∧ ccn J v t ≤ 1 * 364 := sV_rg h.td cgc_rg ht
theorem sps_le {f : Int → Int} {ag : Int → Int → Int} {t : Int} : ∀ (n i : Nat), i ≤ n → (∀ j : Nat, j < n → 0 ≤ f (ag t j)) → sps f ag t i ≤ sps f ag t n
  | 0, i, h, _ => by
    obtain rfl : i = 0 := by omega
    exact Int.le_refl _
  | n + 1, i, h, hf => by
    by_cases e : i = n + 1
    · rw [e]; exact Int.le_refl _
    · have h1 := sps_le n i (by omega) (fun j hj => hf j (by omega))
      have h2 := hf n (by omega)
      show sps f ag t i ≤ sps f ag t n + f (ag t n)
      omega
/-- the sum up to an argument, with it, is no more than all -/
theorem sV_arg {m c i t : Int} {g ar dp : Int → Int} {ag : Int → Int → Int} (h : TD m ar ag dp) (hg : ∀ t, 0 ≤ t → t < m → 0 ≤ g t ∧ g t ≤ c) (ht : 0 ≤ t ∧ t < m) (hi : 0 ≤ i ∧ i < ar t) : 0 ≤ sps (sV g ar ag) ag t i.toNat ∧ g t + sps (sV g ar ag) ag t i.toNat + sV g ar ag (ag t i) ≤ sV g ar ag t := by
  obtain ⟨a, b, q⟩ := h t ht.1 ht.2
  have hf : ∀ j : Nat, j < (ar t).toNat → 0 ≤ sV g ar ag (ag t j) := fun j hj => by
    have hb := q (j : Int) (by omega) (by omega)
    exact (sV_rg h hg ⟨hb.1.1, by omega⟩).1
  have h1 := sps_le (f := sV g ar ag) (ag := ag) (t := t) (ar t).toNat (i + 1).toNat (by omega) hf
  have h2 := sps_le (f := sV g ar ag) (ag := ag) (t := t) i.toNat 0 (by omega) (fun j hj => hf j (by omega))
  have h3 : (0 : Int) ≤ sps (sV g ar ag) ag t i.toNat := h2
  rw [sps_s hi.1] at h1
  rw [sV_un h ht]
  omega
set_option maxHeartbeats 4000000 in
set_option maxRecDepth 100000 in
theorem x_weighPR {l : Launch} {G : tb_G} (hl : l.stackTraces = false) (n : Nat) : ∀ (r9 : Nat) (J : zJ) (t : Int) (lv : Int) (hr_t : -2147483648 ≤ t ∧ t < 2147483648) (hr_lv : -2147483648 ≤ lv ∧ lv < 2147483648) (m : Int) (C : CT J m) (ht : 0 ≤ t ∧ t < m) (hl9 : 1 ≤ lv ∧ lv + J 12 t ≤ 7) (h3 : J 156 3 = -1) (hB : -10000 + cwt J t ≤ J 156 2 ∧ J 156 2 ≤ 10000 - cwt J t) (hV : ∀ v, 0 ≤ v → v < 8 → -10000 + ccn J v t ≤ J 157 v ∧ J 157 v ≤ 10000 - ccn J v t), ((J 12 t).toNat) < r9 → tz_Ok l G M_X4_weigh (3 + 1 * r9) 0 0 [.ref 156, zi t, zi 1, zi lv] n J (zqv (fun J' => (zOf (zbut [156, 157]) J' J ∧ ∀ k, ¬ k = 2 → J' 156 k = J 156 k) ∧ J' 156 2 = J 156 2 + cwt J t ∧ ∀ v, 0 ≤ v → v < 8 → J' 157 v = J 157 v + ccn J v t)) zN := by
  intro r9
  induction r9 with
  | zero => intro J t lv hr_t hr_lv m C ht hl9 h3 hB hV hm9; exact absurd hm9 (Nat.not_lt_zero _)
  | succ r9 ih =>
    intro J t lv hr_t hr_lv m C ht hl9 h3 hB hV hm9
    refine tz_Ok.of hl (by decide +kernel) rfl (tb_c1 rfl) (Nat.le_of_ble_eq_true rfl) ?_
    show tz_At l G M_X4_weigh (tb_rm (3 + 1 * (r9 + 1)) 0 0) none (tb_ZM G 0 0 (zQ n 0 (zqv (fun J' => (zOf (zbut [156, 157]) J' J ∧ ∀ k, ¬ k = 2 → J' 156 k = J 156 k) ∧ J' 156 2 = J 156 2 + cwt J t ∧ ∀ v, 0 ≤ v → v < 8 → J' 157 v = J 157 v + ccn J v t))) (zX n 0 zN)) 0 0 n J 0 [some (.ref 156), some (zi t), some (zi 1), some (zi lv), none, none] []
    have hm := C.told
    have ha := C.ar ht.1 ht.2
    have hn := (C.nums ht.1 ht.2).2.2
    have hwr := cwt_rg C ht
    have hU := sV_un (g := cgw J) C.td ht
    have hUv := fun v => sV_un (g := cgc J v) C.td ht
    refine tz_iload_n (pc := 0) dX4_weigh_0 rfl rfl ?_
    refine tz_bipush (pc := 1) dX4_weigh_1 (by decide) ?_
    refine tz_icmp_leT (pc := 3) (tgt := 7) (by omega) dX4_weigh_3 (by decide) (by omega) (by decide) ?_
    refine tz_aload_n (pc := 7) dX4_weigh_7 rfl rfl ?_
    refine tz_fR (pc := 8) dX4_weigh_8 fl_X4_25 r_156_0 ?_
    refine tz_fR (pc := 11) dX4_weigh_11 fl_X4_43 r_6_1 ?_
    refine tz_iload_n (pc := 14) dX4_weigh_14 rfl rfl ?_
    refine tz_aL (pc := 15) (z := t) (v := (J 7 t)) dX4_weigh_15 a_7 rfl (by omega) rfl (fun r_15 => ?_)
    refine tz_istore (pc := 16) (L2 := [_, _, _, _, _, _]) dX4_weigh_16 (by decide) rfl ?_
    refine tz_iload (pc := 18) dX4_weigh_18 rfl ?_
    refine tz_if_ge (pc := 20) (tgt := 47) dX4_weigh_20 (by decide) (by omega) (fun h_20 => ?_) (fun h_20 => ?_)
    · refine tz_aload_n (pc := 47) dX4_weigh_47 rfl rfl ?_
      refine tz_dup (pc := 48) dX4_weigh_48 rfl ?_
      refine tz_fI (pc := 49) (kz := 2) (v := (J 156 2)) dX4_weigh_49 fl_X4_15 i_156_2 rfl rfl (fun r_49 => ?_)
      refine tz_iload_n (pc := 52) dX4_weigh_52 rfl rfl ?_
      refine tz_iload (pc := 53) dX4_weigh_53 rfl ?_
      refine tz_aload_n (pc := 55) dX4_weigh_55 rfl rfl ?_
      refine tz_fI (pc := 56) (kz := 3) (v := (-1)) dX4_weigh_56 fl_X4_19 i_156_3 rfl h3 (fun _ => ?_)
      refine tz_icmp_neT (pc := 59) (tgt := 69) (by omega) dX4_weigh_59 (by decide) (by omega) (by decide) ?_
      refine tz_aload_n (pc := 69) dX4_weigh_69 rfl rfl ?_
      refine tz_fR (pc := 70) dX4_weigh_70 fl_X4_25 r_156_0 ?_
      refine tz_fR (pc := 73) dX4_weigh_73 fl_X4_63 r_6_0 ?_
      refine tz_fR (pc := 76) dX4_weigh_76 fl_X4_67 r_1_2 ?_
      refine tz_iload (pc := 79) dX4_weigh_79 rfl ?_
      have hq9 := C.1.2 (J 7 t) (by omega) (by omega)
      have hgw : cgw J t = J 4 (J 7 t) := by unfold cgw; rw [if_neg (by omega)]
      have hgc : ∀ v, 0 ≤ v → v < 8 → cgc J v t = 0 := fun v x y => by unfold cgc; rw [if_neg (by omega)]
      refine tz_aL (pc := 81) (z := (J 7 t)) (v := (J 4 (J 7 t))) dX4_weigh_81 a_4 rfl (by omega) rfl (fun r_81 => ?_)
      refine tz_imul (pc := 82) (v := 1 * (J 4 (J 7 t))) dX4_weigh_82 rfl ?_
      refine tz_iadd (pc := 83) (v := (J 156 2) + (1 * (J 4 (J 7 t)))) dX4_weigh_83 rfl ?_
      refine tz_pI (pc := 84) (kz := 2) dX4_weigh_84 fl_X4_15 i_156_2 rfl rfl (by omega) ?_
      refine tz_iconst (pc := 87) dX4_weigh_87 ?_
      refine tz_istore (pc := 88) (L2 := [_, _, _, _, _, _]) dX4_weigh_88 (by decide) rfl ?_
      have loop90 : ∀ (f9 : Nat) (i : Int) (J1 : zJ), ((3 - i).toNat) < f9 → (0 ≤ i ∧ i ≤ J 8 t) → (zOf (zbut [156, 157]) J1 J ∧ ∀ k, ¬ k = 2 → J1 156 k = J 156 k) → (J1 156 2 = J 156 2 + (cgw J t + sps (cwt J) (cag J) t i.toNat)) → (∀ v, 0 ≤ v → v < 8 → J1 157 v = J 157 v + sps (ccn J v) (cag J) t i.toNat) → tz_At l G M_X4_weigh (tb_rm (3 + 1 * (r9 + 1)) 0 0) none (tb_ZM G 0 0 (zQ n 0 (zqv (fun J' => (zOf (zbut [156, 157]) J' J ∧ ∀ k, ¬ k = 2 → J' 156 k = J 156 k) ∧ J' 156 2 = J 156 2 + cwt J t ∧ ∀ v, 0 ≤ v → v < 8 → J' 157 v = J 157 v + ccn J v t))) (zX n 0 zN)) 0 0 n J1 90 [some (.ref 156), some (zi t), some (zi 1), some (zi lv), some (zi (J 7 t)), some (zi i)] [] := by
        intro f9
        induction f9 with
        | zero => intro i J1 hm9; exact absurd hm9 (Nat.not_lt_zero _)
        | succ f9 ih90 =>
          intro i J1 hm90 hi f1 w1 b1
          refine tz_iload (pc := 90) dX4_weigh_90 rfl ?_
          refine tz_aload_n (pc := 92) dX4_weigh_92 rfl rfl ?_
          refine tz_fR (pc := 93) dX4_weigh_93 fl_X4_25 r_156_0 ?_
          refine tz_fR (pc := 96) dX4_weigh_96 fl_X4_72 r_6_2 ?_
          refine tz_iload_n (pc := 99) dX4_weigh_99 rfl rfl ?_
          refine tz_aL (pc := 100) (z := t) (v := (J 8 t)) dX4_weigh_100 a_8 rfl (by omega) (Eq.trans (congrFun (f1.1 8 rfl) t) rfl) (fun r_100 => ?_)
          refine tz_icmp_ge (pc := 101) (tgt := 128) dX4_weigh_101 (by decide) (by omega) (by omega) (fun h_101 => ?_) (fun h_101 => ?_)
          · exact tz_vret (pc := 128) dX4_weigh_128 rfl (Nat.le_of_ble_eq_true rfl) (Nat.le_of_ble_eq_true rfl) ⟨Nat.le_refl _, Nat.le_add_right _ _⟩ ⟨rfl, ⟨f1, by rw [w1]; unfold cwt; rw [hU, show (J 8 t).toNat = i.toNat by omega], fun v x y => by rw [b1 v x y]; unfold ccn; rw [hUv v, hgc v x y, show (J 8 t).toNat = i.toNat by omega]; show _ = J 157 v + (0 + sps (ccn J v) (cag J) t i.toNat); unfold ccn; omega⟩⟩
          · refine tz_aload_n (pc := 104) dX4_weigh_104 rfl rfl ?_
            refine tz_aload_n (pc := 105) dX4_weigh_105 rfl rfl ?_
            refine tz_fR (pc := 106) dX4_weigh_106 fl_X4_25 r_156_0 ?_
            refine tz_iload_n (pc := 109) dX4_weigh_109 rfl rfl ?_
            refine tz_iload (pc := 110) dX4_weigh_110 rfl ?_
            refine tz_cV (pc := 112) (c_arg hl n _ _ _ (by omega) (by omega) (by omega)) vl_X4_50 dX4_weigh_112 o_6 rfl rfl (Nat.le_of_ble_eq_true rfl) ⟨(show 0 + 1 ≤ 3 + 1 * (r9 + 1) by omega), (show 8 + (3 + 11) + 40 * (0) ≤ 40 * (3 + 1 * (r9 + 1)) by omega)⟩ rfl rfl (Nat.le_of_ble_eq_true rfl) (Nat.le_of_ble_eq_true rfl) (fun r9 J_112 hq9 => ?_)
            obtain ⟨z_112, rfl, hz_112, rfl, hv_112⟩ := hq9
            rw [f1.1 9 rfl] at hv_112
            obtain rfl : J 9 (t * 3 + i) = z_112 := hv_112
            refine tz_iload_n (pc := 115) dX4_weigh_115 rfl rfl ?_
            refine tz_iload_n (pc := 116) dX4_weigh_116 rfl rfl ?_
            refine tz_iconst (pc := 117) dX4_weigh_117 ?_
            refine tz_iadd (pc := 118) (v := lv + 1) dX4_weigh_118 rfl ?_
            have g1 := C.arg (t := t) (i := i) (by omega) (by omega) (by omega) (by omega)
            have sa := sV_arg C.td (cgw_rg C) ht (i := i) (by omega)
            have sc := fun v => sV_arg C.td (cgc_rg (J := J) (v := v) (m := m)) ht (i := i) (by omega)
            have wa := cwt_rg C (t := J 9 (t * 3 + i)) (by omega)
            have saw : 0 ≤ sps (cwt J) (cag J) t i.toNat ∧ cgw J t + sps (cwt J) (cag J) t i.toNat + cwt J (J 9 (t * 3 + i)) ≤ cwt J t := sa
            refine tz_cV (pc := 119) (ih _ _ _ (by omega) (by omega) m (C.of (fun c hc => f1.1 c (by simp [zbut]; omega))) (by omega) (by rw [f1.1 12 rfl]; omega) ((f1.2 3 (by decide)).trans h3) (by rw [(cwt_of f1.1).1]; omega) (fun v x y => by have scv : 0 ≤ sps (ccn J v) (cag J) t i.toNat ∧ cgc J v t + sps (ccn J v) (cag J) t i.toNat + ccn J v (J 9 (t * 3 + i)) ≤ ccn J v t := sc v; have hg0 := cgc_rg (J := J) (v := v) (m := m) t ht.1 ht.2; have hv := hV v x y; have bv := b1 v x y; rw [(cwt_of f1.1).2]; omega) (by rw [f1.1 12 rfl]; omega)) vl_X4_59 dX4_weigh_119 o_156 rfl rfl (Nat.le_of_ble_eq_true rfl) ⟨(show (3 + 1 * r9) + 1 ≤ 3 + 1 * (r9 + 1) by omega), (show 8 + (6 + 11) + 40 * ((3 + 1 * r9)) ≤ 40 * (3 + 1 * (r9 + 1)) by omega)⟩ rfl rfl (Nat.le_of_ble_eq_true rfl) (Nat.le_of_ble_eq_true rfl) (fun r9 J_119 hq9 => ?_)
            obtain ⟨rfl, f2, w2, b2⟩ := hq9
            rw [(cwt_of f1.1).1] at w2
            rw [(cwt_of f1.1).2] at b2
            refine tz_iinc (pc := 122) (z := i + 1) (L2 := [_, _, _, _, _, _]) dX4_weigh_122 rfl (by omega) rfl ?_
            refine tz_goto (pc := 125) (tgt := 90) dX4_weigh_125 (by decide) ?_
            exact ih90 (i + 1) _ (by omega) (by omega) ⟨f2.1.tr f1.1, fun k hk => (f2.2 k hk).trans (f1.2 k hk)⟩ (by rw [sps_s hi.1, w2, w1]; show _ = J 156 2 + (cgw J t + (sps (cwt J) (cag J) t i.toNat + cwt J (J 9 (t * 3 + i)))); omega) (fun v x y => by rw [sps_s hi.1, b2 v x y, b1 v x y]; show _ = J 157 v + (sps (ccn J v) (cag J) t i.toNat + ccn J v (J 9 (t * 3 + i))); omega)
      exact loop90 _ 0 _ (Nat.lt_succ_self _) (by omega) ⟨zOf.up rfl zOf.rf, fun k hk => zup_ne hk⟩ (by rw [zup_at]; show _ = J 156 2 + (cgw J t + 0); omega) (fun v x y => by show J 157 v = J 157 v + 0; omega)
    · refine tz_aload_n (pc := 23) dX4_weigh_23 rfl rfl ?_
      refine tz_fR (pc := 24) dX4_weigh_24 fl_X4_9 r_156_1 ?_
      refine tz_iload (pc := 27) dX4_weigh_27 rfl ?_
      refine tz_iconst (pc := 29) dX4_weigh_29 ?_
      refine tz_ixor (pc := 30) (v := -1 - J 7 t) dX4_weigh_30 (z_nn (by omega)) ?_
      refine tz_dup2 (pc := 31) dX4_weigh_31 rfl rfl ?_
      have hv9 := hV (-1 - J 7 t) (by omega) (by omega)
      have hc9 := ccn_rg (v := -1 - J 7 t) C ht
      have hw9 : cwt J t = 1 := by unfold cwt; rw [hU, ha.2.1 (by omega)]; show cgw J t + 0 = 1; unfold cgw; rw [if_pos (by omega)]; omega
      have hx9 : ∀ v, ccn J v t = if J 7 t = -1 - v then 1 else 0 := fun v => by unfold ccn; rw [hUv v, ha.2.1 (by omega)]; show cgc J v t + 0 = _; unfold cgc; omega
      have hy9 := hx9 (-1 - J 7 t)
      rw [if_pos (by omega)] at hy9
      refine tz_aL (pc := 32) (z := (-1 - J 7 t)) (v := (J 157 (-1 - J 7 t))) dX4_weigh_32 a_157 rfl (by omega) rfl (fun r_32 => ?_)
      refine tz_iload_n (pc := 33) dX4_weigh_33 rfl rfl ?_
      refine tz_iadd (pc := 34) (v := (J 157 (-1 - J 7 t)) + 1) dX4_weigh_34 rfl ?_
      refine tz_aS (pc := 35) (z := (-1 - J 7 t)) dX4_weigh_35 a_157 rfl (by omega) (by omega) ?_
      refine tz_aload_n (pc := 36) dX4_weigh_36 rfl rfl ?_
      refine tz_dup (pc := 37) dX4_weigh_37 rfl ?_
      refine tz_fI (pc := 38) (kz := 2) (v := (J 156 2)) dX4_weigh_38 fl_X4_15 i_156_2 rfl rfl (fun r_38 => ?_)
      refine tz_iload_n (pc := 41) dX4_weigh_41 rfl rfl ?_
      refine tz_iadd (pc := 42) (v := (J 156 2) + 1) dX4_weigh_42 rfl ?_
      refine tz_pI (pc := 43) (kz := 2) dX4_weigh_43 fl_X4_15 i_156_2 rfl rfl (by omega) ?_
      exact tz_vret (pc := 46) dX4_weigh_46 rfl (Nat.le_of_ble_eq_true rfl) (Nat.le_of_ble_eq_true rfl) ⟨Nat.le_refl _, Nat.le_add_right _ _⟩ ⟨rfl, ⟨⟨zOf.up rfl (zOf.up rfl zOf.rf), fun k hk => (zup_ne hk).trans rfl⟩, by rw [zup_at]; omega, fun v x y => by show (if v = -1 - J 7 t then J 157 (-1 - J 7 t) + 1 else J 157 v) = _; rw [hx9 v]; by_cases e : v = -1 - J 7 t; rw [if_pos e, if_pos (by omega), ← e]; skip; rw [if_neg e, if_neg (by omega)]; omega⟩⟩

theorem x_weighP {l : Launch} {G : tb_G} (hl : l.stackTraces = false) (n : Nat) (J : zJ) (t : Int) (hr_t : -2147483648 ≤ t ∧ t < 2147483648) (m : Int) (C : CT J m) (ht : 0 ≤ t ∧ t < m) (h3 : J 156 3 = -1) (hB : -10000 + cwt J t ≤ J 156 2 ∧ J 156 2 ≤ 10000 - cwt J t) (hV : ∀ v, 0 ≤ v → v < 8 → -10000 + ccn J v t ≤ J 157 v ∧ J 157 v ≤ 10000 - ccn J v t) : tz_Ok l G M_X4_weigh 10 0 0 [.ref 156, zi t, zi 1, zi 1] n J (zqv (fun J' => (zOf (zbut [156, 157]) J' J ∧ ∀ k, ¬ k = 2 → J' 156 k = J 156 k) ∧ J' 156 2 = J 156 2 + cwt J t ∧ ∀ v, 0 ≤ v → v < 8 → J' 157 v = J 157 v + ccn J v t)) zN := x_weighPR hl n 7 J t 1 hr_t (by decide) m C ht (by have := (C.nums ht.1 ht.2).2.2; omega) h3 hB hV (by have := (C.nums ht.1 ht.2).2.2; omega)
set_option maxHeartbeats 4000000 in
set_option maxRecDepth 100000 in
theorem x_weighNR {l : Launch} {G : tb_G} (hl : l.stackTraces = false) (n : Nat) : ∀ (r9 : Nat) (J : zJ) (t : Int) (lv : Int) (hr_t : -2147483648 ≤ t ∧ t < 2147483648) (hr_lv : -2147483648 ≤ lv ∧ lv < 2147483648) (m : Int) (C : CT J m) (ht : 0 ≤ t ∧ t < m) (hl9 : 1 ≤ lv ∧ lv + J 12 t ≤ 7) (h3 : J 156 3 = -1) (hB : -10000 + cwt J t ≤ J 156 2 ∧ J 156 2 ≤ 10000 - cwt J t) (hV : ∀ v, 0 ≤ v → v < 8 → -10000 + ccn J v t ≤ J 157 v ∧ J 157 v ≤ 10000 - ccn J v t), ((J 12 t).toNat) < r9 → tz_Ok l G M_X4_weigh (3 + 1 * r9) 0 0 [.ref 156, zi t, zi (-1), zi lv] n J (zqv (fun J' => (zOf (zbut [156, 157]) J' J ∧ ∀ k, ¬ k = 2 → J' 156 k = J 156 k) ∧ J' 156 2 = J 156 2 - cwt J t ∧ ∀ v, 0 ≤ v → v < 8 → J' 157 v = J 157 v - ccn J v t)) zN := by
  intro r9
  induction r9 with
  | zero => intro J t lv hr_t hr_lv m C ht hl9 h3 hB hV hm9; exact absurd hm9 (Nat.not_lt_zero _)
  | succ r9 ih =>
    intro J t lv hr_t hr_lv m C ht hl9 h3 hB hV hm9
    refine tz_Ok.of hl (by decide +kernel) rfl (tb_c1 rfl) (Nat.le_of_ble_eq_true rfl) ?_
    show tz_At l G M_X4_weigh (tb_rm (3 + 1 * (r9 + 1)) 0 0) none (tb_ZM G 0 0 (zQ n 0 (zqv (fun J' => (zOf (zbut [156, 157]) J' J ∧ ∀ k, ¬ k = 2 → J' 156 k = J 156 k) ∧ J' 156 2 = J 156 2 - cwt J t ∧ ∀ v, 0 ≤ v → v < 8 → J' 157 v = J 157 v - ccn J v t))) (zX n 0 zN)) 0 0 n J 0 [some (.ref 156), some (zi t), some (zi (-1)), some (zi lv), none, none] []
    have hm := C.told
    have ha := C.ar ht.1 ht.2
    have hn := (C.nums ht.1 ht.2).2.2
    have hwr := cwt_rg C ht
    have hU := sV_un (g := cgw J) C.td ht
    have hUv := fun v => sV_un (g := cgc J v) C.td ht
    refine tz_iload_n (pc := 0) dX4_weigh_0 rfl rfl ?_
    refine tz_bipush (pc := 1) dX4_weigh_1 (by decide) ?_
    refine tz_icmp_leT (pc := 3) (tgt := 7) (by omega) dX4_weigh_3 (by decide) (by omega) (by decide) ?_
    refine tz_aload_n (pc := 7) dX4_weigh_7 rfl rfl ?_
    refine tz_fR (pc := 8) dX4_weigh_8 fl_X4_25 r_156_0 ?_
    refine tz_fR (pc := 11) dX4_weigh_11 fl_X4_43 r_6_1 ?_
    refine tz_iload_n (pc := 14) dX4_weigh_14 rfl rfl ?_
    refine tz_aL (pc := 15) (z := t) (v := (J 7 t)) dX4_weigh_15 a_7 rfl (by omega) rfl (fun r_15 => ?_)
    refine tz_istore (pc := 16) (L2 := [_, _, _, _, _, _]) dX4_weigh_16 (by decide) rfl ?_
    refine tz_iload (pc := 18) dX4_weigh_18 rfl ?_
    refine tz_if_ge (pc := 20) (tgt := 47) dX4_weigh_20 (by decide) (by omega) (fun h_20 => ?_) (fun h_20 => ?_)
    · refine tz_aload_n (pc := 47) dX4_weigh_47 rfl rfl ?_
      refine tz_dup (pc := 48) dX4_weigh_48 rfl ?_
      refine tz_fI (pc := 49) (kz := 2) (v := (J 156 2)) dX4_weigh_49 fl_X4_15 i_156_2 rfl rfl (fun r_49 => ?_)
      refine tz_iload_n (pc := 52) dX4_weigh_52 rfl rfl ?_
      refine tz_iload (pc := 53) dX4_weigh_53 rfl ?_
      refine tz_aload_n (pc := 55) dX4_weigh_55 rfl rfl ?_
      refine tz_fI (pc := 56) (kz := 3) (v := (-1)) dX4_weigh_56 fl_X4_19 i_156_3 rfl h3 (fun _ => ?_)
      refine tz_icmp_neT (pc := 59) (tgt := 69) (by omega) dX4_weigh_59 (by decide) (by omega) (by decide) ?_
      refine tz_aload_n (pc := 69) dX4_weigh_69 rfl rfl ?_
      refine tz_fR (pc := 70) dX4_weigh_70 fl_X4_25 r_156_0 ?_
      refine tz_fR (pc := 73) dX4_weigh_73 fl_X4_63 r_6_0 ?_
      refine tz_fR (pc := 76) dX4_weigh_76 fl_X4_67 r_1_2 ?_
      refine tz_iload (pc := 79) dX4_weigh_79 rfl ?_
      have hq9 := C.1.2 (J 7 t) (by omega) (by omega)
      have hgw : cgw J t = J 4 (J 7 t) := by unfold cgw; rw [if_neg (by omega)]
      have hgc : ∀ v, 0 ≤ v → v < 8 → cgc J v t = 0 := fun v x y => by unfold cgc; rw [if_neg (by omega)]
      refine tz_aL (pc := 81) (z := (J 7 t)) (v := (J 4 (J 7 t))) dX4_weigh_81 a_4 rfl (by omega) rfl (fun r_81 => ?_)
      refine tz_imul (pc := 82) (v := (-1) * (J 4 (J 7 t))) dX4_weigh_82 rfl ?_
      refine tz_iadd (pc := 83) (v := (J 156 2) + ((-1) * (J 4 (J 7 t)))) dX4_weigh_83 rfl ?_
      refine tz_pI (pc := 84) (kz := 2) dX4_weigh_84 fl_X4_15 i_156_2 rfl rfl (by omega) ?_
      refine tz_iconst (pc := 87) dX4_weigh_87 ?_
      refine tz_istore (pc := 88) (L2 := [_, _, _, _, _, _]) dX4_weigh_88 (by decide) rfl ?_
      have loop90 : ∀ (f9 : Nat) (i : Int) (J1 : zJ), ((3 - i).toNat) < f9 → (0 ≤ i ∧ i ≤ J 8 t) → (zOf (zbut [156, 157]) J1 J ∧ ∀ k, ¬ k = 2 → J1 156 k = J 156 k) → (J1 156 2 = J 156 2 - (cgw J t + sps (cwt J) (cag J) t i.toNat)) → (∀ v, 0 ≤ v → v < 8 → J1 157 v = J 157 v - sps (ccn J v) (cag J) t i.toNat) → tz_At l G M_X4_weigh (tb_rm (3 + 1 * (r9 + 1)) 0 0) none (tb_ZM G 0 0 (zQ n 0 (zqv (fun J' => (zOf (zbut [156, 157]) J' J ∧ ∀ k, ¬ k = 2 → J' 156 k = J 156 k) ∧ J' 156 2 = J 156 2 - cwt J t ∧ ∀ v, 0 ≤ v → v < 8 → J' 157 v = J 157 v - ccn J v t))) (zX n 0 zN)) 0 0 n J1 90 [some (.ref 156), some (zi t), some (zi (-1)), some (zi lv), some (zi (J 7 t)), some (zi i)] [] := by
        intro f9
        induction f9 with
        | zero => intro i J1 hm9; exact absurd hm9 (Nat.not_lt_zero _)
        | succ f9 ih90 =>
          intro i J1 hm90 hi f1 w1 b1
          refine tz_iload (pc := 90) dX4_weigh_90 rfl ?_
          refine tz_aload_n (pc := 92) dX4_weigh_92 rfl rfl ?_
          refine tz_fR (pc := 93) dX4_weigh_93 fl_X4_25 r_156_0 ?_
          refine tz_fR (pc := 96) dX4_weigh_96 fl_X4_72 r_6_2 ?_
          refine tz_iload_n (pc := 99) dX4_weigh_99 rfl rfl ?_
          refine tz_aL (pc := 100) (z := t) (v := (J 8 t)) dX4_weigh_100 a_8 rfl (by omega) (Eq.trans (congrFun (f1.1 8 rfl) t) rfl) (fun r_100 => ?_)
          refine tz_icmp_ge (pc := 101) (tgt := 128) dX4_weigh_101 (by decide) (by omega) (by omega) (fun h_101 => ?_) (fun h_101 => ?_)
          · exact tz_vret (pc := 128) dX4_weigh_128 rfl (Nat.le_of_ble_eq_true rfl) (Nat.le_of_ble_eq_true rfl) ⟨Nat.le_refl _, Nat.le_add_right _ _⟩ ⟨rfl, ⟨f1, by rw [w1]; unfold cwt; rw [hU, show (J 8 t).toNat = i.toNat by omega], fun v x y => by rw [b1 v x y]; unfold ccn; rw [hUv v, hgc v x y, show (J 8 t).toNat = i.toNat by omega]; show _ = J 157 v - (0 + sps (ccn J v) (cag J) t i.toNat); unfold ccn; omega⟩⟩
          · refine tz_aload_n (pc := 104) dX4_weigh_104 rfl rfl ?_
            refine tz_aload_n (pc := 105) dX4_weigh_105 rfl rfl ?_
            refine tz_fR (pc := 106) dX4_weigh_106 fl_X4_25 r_156_0 ?_
            refine tz_iload_n (pc := 109) dX4_weigh_109 rfl rfl ?_
            refine tz_iload (pc := 110) dX4_weigh_110 rfl ?_
            refine tz_cV (pc := 112) (c_arg hl n _ _ _ (by omega) (by omega) (by omega)) vl_X4_50 dX4_weigh_112 o_6 rfl rfl (Nat.le_of_ble_eq_true rfl) ⟨(show 0 + 1 ≤ 3 + 1 * (r9 + 1) by omega), (show 8 + (3 + 11) + 40 * (0) ≤ 40 * (3 + 1 * (r9 + 1)) by omega)⟩ rfl rfl (Nat.le_of_ble_eq_true rfl) (Nat.le_of_ble_eq_true rfl) (fun r9 J_112 hq9 => ?_)
            obtain ⟨z_112, rfl, hz_112, rfl, hv_112⟩ := hq9
            rw [f1.1 9 rfl] at hv_112
            obtain rfl : J 9 (t * 3 + i) = z_112 := hv_112
            refine tz_iload_n (pc := 115) dX4_weigh_115 rfl rfl ?_
            refine tz_iload_n (pc := 116) dX4_weigh_116 rfl rfl ?_
            refine tz_iconst (pc := 117) dX4_weigh_117 ?_
            refine tz_iadd (pc := 118) (v := lv + 1) dX4_weigh_118 rfl ?_
            have g1 := C.arg (t := t) (i := i) (by omega) (by omega) (by omega) (by omega)
            have sa := sV_arg C.td (cgw_rg C) ht (i := i) (by omega)
            have sc := fun v => sV_arg C.td (cgc_rg (J := J) (v := v) (m := m)) ht (i := i) (by omega)
            have wa := cwt_rg C (t := J 9 (t * 3 + i)) (by omega)
            have saw : 0 ≤ sps (cwt J) (cag J) t i.toNat ∧ cgw J t + sps (cwt J) (cag J) t i.toNat + cwt J (J 9 (t * 3 + i)) ≤ cwt J t := sa
            refine tz_cV (pc := 119) (ih _ _ _ (by omega) (by omega) m (C.of (fun c hc => f1.1 c (by simp [zbut]; omega))) (by omega) (by rw [f1.1 12 rfl]; omega) ((f1.2 3 (by decide)).trans h3) (by rw [(cwt_of f1.1).1]; omega) (fun v x y => by have scv : 0 ≤ sps (ccn J v) (cag J) t i.toNat ∧ cgc J v t + sps (ccn J v) (cag J) t i.toNat + ccn J v (J 9 (t * 3 + i)) ≤ ccn J v t := sc v; have hg0 := cgc_rg (J := J) (v := v) (m := m) t ht.1 ht.2; have hv := hV v x y; have bv := b1 v x y; rw [(cwt_of f1.1).2]; omega) (by rw [f1.1 12 rfl]; omega)) vl_X4_59 dX4_weigh_119 o_156 rfl rfl (Nat.le_of_ble_eq_true rfl) ⟨(show (3 + 1 * r9) + 1 ≤ 3 + 1 * (r9 + 1) by omega), (show 8 + (6 + 11) + 40 * ((3 + 1 * r9)) ≤ 40 * (3 + 1 * (r9 + 1)) by omega)⟩ rfl rfl (Nat.le_of_ble_eq_true rfl) (Nat.le_of_ble_eq_true rfl) (fun r9 J_119 hq9 => ?_)
            obtain ⟨rfl, f2, w2, b2⟩ := hq9
            rw [(cwt_of f1.1).1] at w2
            rw [(cwt_of f1.1).2] at b2
            refine tz_iinc (pc := 122) (z := i + 1) (L2 := [_, _, _, _, _, _]) dX4_weigh_122 rfl (by omega) rfl ?_
            refine tz_goto (pc := 125) (tgt := 90) dX4_weigh_125 (by decide) ?_
            exact ih90 (i + 1) _ (by omega) (by omega) ⟨f2.1.tr f1.1, fun k hk => (f2.2 k hk).trans (f1.2 k hk)⟩ (by rw [sps_s hi.1, w2, w1]; show _ = J 156 2 - (cgw J t + (sps (cwt J) (cag J) t i.toNat + cwt J (J 9 (t * 3 + i)))); omega) (fun v x y => by rw [sps_s hi.1, b2 v x y, b1 v x y]; show _ = J 157 v - (sps (ccn J v) (cag J) t i.toNat + ccn J v (J 9 (t * 3 + i))); omega)
      exact loop90 _ 0 _ (Nat.lt_succ_self _) (by omega) ⟨zOf.up rfl zOf.rf, fun k hk => zup_ne hk⟩ (by rw [zup_at]; show _ = J 156 2 - (cgw J t + 0); omega) (fun v x y => by show J 157 v = J 157 v - 0; omega)
    · refine tz_aload_n (pc := 23) dX4_weigh_23 rfl rfl ?_
      refine tz_fR (pc := 24) dX4_weigh_24 fl_X4_9 r_156_1 ?_
      refine tz_iload (pc := 27) dX4_weigh_27 rfl ?_
      refine tz_iconst (pc := 29) dX4_weigh_29 ?_
      refine tz_ixor (pc := 30) (v := -1 - J 7 t) dX4_weigh_30 (z_nn (by omega)) ?_
      refine tz_dup2 (pc := 31) dX4_weigh_31 rfl rfl ?_
      have hv9 := hV (-1 - J 7 t) (by omega) (by omega)
      have hc9 := ccn_rg (v := -1 - J 7 t) C ht
      have hw9 : cwt J t = 1 := by unfold cwt; rw [hU, ha.2.1 (by omega)]; show cgw J t + 0 = 1; unfold cgw; rw [if_pos (by omega)]; omega
      have hx9 : ∀ v, ccn J v t = if J 7 t = -1 - v then 1 else 0 := fun v => by unfold ccn; rw [hUv v, ha.2.1 (by omega)]; show cgc J v t + 0 = _; unfold cgc; omega
      have hy9 := hx9 (-1 - J 7 t)
      rw [if_pos (by omega)] at hy9
      refine tz_aL (pc := 32) (z := (-1 - J 7 t)) (v := (J 157 (-1 - J 7 t))) dX4_weigh_32 a_157 rfl (by omega) rfl (fun r_32 => ?_)
      refine tz_iload_n (pc := 33) dX4_weigh_33 rfl rfl ?_
      refine tz_iadd (pc := 34) (v := (J 157 (-1 - J 7 t)) + (-1)) dX4_weigh_34 rfl ?_
      refine tz_aS (pc := 35) (z := (-1 - J 7 t)) dX4_weigh_35 a_157 rfl (by omega) (by omega) ?_
      refine tz_aload_n (pc := 36) dX4_weigh_36 rfl rfl ?_
      refine tz_dup (pc := 37) dX4_weigh_37 rfl ?_
      refine tz_fI (pc := 38) (kz := 2) (v := (J 156 2)) dX4_weigh_38 fl_X4_15 i_156_2 rfl rfl (fun r_38 => ?_)
      refine tz_iload_n (pc := 41) dX4_weigh_41 rfl rfl ?_
      refine tz_iadd (pc := 42) (v := (J 156 2) + (-1)) dX4_weigh_42 rfl ?_
      refine tz_pI (pc := 43) (kz := 2) dX4_weigh_43 fl_X4_15 i_156_2 rfl rfl (by omega) ?_
      exact tz_vret (pc := 46) dX4_weigh_46 rfl (Nat.le_of_ble_eq_true rfl) (Nat.le_of_ble_eq_true rfl) ⟨Nat.le_refl _, Nat.le_add_right _ _⟩ ⟨rfl, ⟨⟨zOf.up rfl (zOf.up rfl zOf.rf), fun k hk => (zup_ne hk).trans rfl⟩, by rw [zup_at]; omega, fun v x y => by show (if v = -1 - J 7 t then J 157 (-1 - J 7 t) + (-1) else J 157 v) = _; rw [hx9 v]; by_cases e : v = -1 - J 7 t; rw [if_pos e, if_pos (by omega), ← e]; omega; rw [if_neg e, if_neg (by omega)]; omega⟩⟩

theorem x_weighN {l : Launch} {G : tb_G} (hl : l.stackTraces = false) (n : Nat) (J : zJ) (t : Int) (hr_t : -2147483648 ≤ t ∧ t < 2147483648) (m : Int) (C : CT J m) (ht : 0 ≤ t ∧ t < m) (h3 : J 156 3 = -1) (hB : -10000 + cwt J t ≤ J 156 2 ∧ J 156 2 ≤ 10000 - cwt J t) (hV : ∀ v, 0 ≤ v → v < 8 → -10000 + ccn J v t ≤ J 157 v ∧ J 157 v ≤ 10000 - ccn J v t) : tz_Ok l G M_X4_weigh 10 0 0 [.ref 156, zi t, zi (-1), zi 1] n J (zqv (fun J' => (zOf (zbut [156, 157]) J' J ∧ ∀ k, ¬ k = 2 → J' 156 k = J 156 k) ∧ J' 156 2 = J 156 2 - cwt J t ∧ ∀ v, 0 ≤ v → v < 8 → J' 157 v = J 157 v - ccn J v t)) zN := x_weighNR hl n 7 J t 1 hr_t (by decide) m C ht (by have := (C.nums ht.1 ht.2).2.2; omega) h3 hB hV (by have := (C.nums ht.1 ht.2).2.2; omega)
set_option maxHeartbeats 4000000 in
set_option maxRecDepth 100000 in
theorem x_weighBoth {l : Launch} {G : tb_G} (hl : l.stackTraces = false) (n : Nat) (J : zJ) (s : Int) (t : Int) (hr_s : -2147483648 ≤ s ∧ s < 2147483648) (hr_t : -2147483648 ≤ t ∧ t < 2147483648) (m : Int) (C : CT J m) (hs : 0 ≤ s ∧ s < m) (ht : 0 ≤ t ∧ t < m) (h3 : J 156 3 = -1) : tz_Ok l G M_X4_weighBoth 11 0 0 [.ref 156, zi s, zi t] n J (zqv (fun J' => (zOf (zbut [156, 157]) J' J ∧ ∀ k, ¬ k = 2 → J' 156 k = J 156 k) ∧ J' 156 2 = cwt J s - cwt J t ∧ ∀ v, 0 ≤ v → v < 8 → J' 157 v = ccn J v s - ccn J v t)) zN := by
  refine tz_Ok.of hl (by decide +kernel) rfl (tb_c1 rfl) (Nat.le_of_ble_eq_true rfl) ?_
  show tz_At l G M_X4_weighBoth (tb_rm 11 0 0) none (tb_ZM G 0 0 (zQ n 0 (zqv (fun J' => (zOf (zbut [156, 157]) J' J ∧ ∀ k, ¬ k = 2 → J' 156 k = J 156 k) ∧ J' 156 2 = cwt J s - cwt J t ∧ ∀ v, 0 ≤ v → v < 8 → J' 157 v = ccn J v s - ccn J v t))) (zX n 0 zN)) 0 0 n J 0 [some (.ref 156), some (zi s), some (zi t)] []
  have hm := C.told
  have hws := cwt_rg C hs
  have hwt := cwt_rg C ht
  have f0 : zOf (zbut [156, 157]) (zup (zfl J 157 8 0) 156 2 0) J := zOf.up rfl (zOf.fl rfl zOf.rf)
  have z0 : ∀ v, 0 ≤ v → v < 8 → (zup (zfl J 157 8 0) 156 2 0) 157 v = 0 := fun v x y => by show zfl J 157 8 0 157 v = 0; exact zfl_in y
  refine tz_aload_n (pc := 0) dX4_weighBoth_0 rfl rfl ?_
  refine tz_fR (pc := 1) dX4_weighBoth_1 fl_X4_9 r_156_1 ?_
  refine tz_iconst (pc := 4) dX4_weighBoth_4 ?_
  refine tz_cS (pc := 5) (zJ_fill hl n _ 157 _ 8 0 (by decide) a_157 rfl) sl_X4_53 dX4_weighBoth_5 rfl rfl (Nat.le_of_ble_eq_true rfl) ⟨(Nat.le_of_ble_eq_true rfl), (Nat.le_of_ble_eq_true rfl)⟩ rfl rfl (Nat.le_of_ble_eq_true rfl) (Nat.le_of_ble_eq_true rfl) (fun r9 J_5 hq9 => ?_)
  obtain ⟨rfl, rfl⟩ := hq9
  refine tz_aload_n (pc := 8) dX4_weighBoth_8 rfl rfl ?_
  refine tz_iconst (pc := 9) dX4_weighBoth_9 ?_
  refine tz_pI (pc := 10) (kz := 2) dX4_weighBoth_10 fl_X4_15 i_156_2 rfl rfl (by decide) ?_
  refine tz_aload_n (pc := 13) dX4_weighBoth_13 rfl rfl ?_
  refine tz_iload_n (pc := 14) dX4_weighBoth_14 rfl rfl ?_
  refine tz_iconst (pc := 15) dX4_weighBoth_15 ?_
  refine tz_iconst (pc := 16) dX4_weighBoth_16 ?_
  refine tz_cV (pc := 17) (x_weighP hl n _ _ (by omega) m (C.of (fun c hc => f0 c (by simp [zbut]; omega))) hs h3 (by rw [(cwt_of f0).1]; show _ ≤ (0 : Int) ∧ (0 : Int) ≤ _; omega) (fun v x y => by rw [(cwt_of f0).2, z0 v x y]; have := ccn_rg (v := v) C hs; omega)) vl_X4_59 dX4_weighBoth_17 o_156 rfl rfl (Nat.le_of_ble_eq_true rfl) ⟨(Nat.le_of_ble_eq_true rfl), (Nat.le_of_ble_eq_true rfl)⟩ rfl rfl (Nat.le_of_ble_eq_true rfl) (Nat.le_of_ble_eq_true rfl) (fun r9 J_17 hq9 => ?_)
  obtain ⟨rfl, f1, w1, b1⟩ := hq9
  rw [(cwt_of f0).1] at w1
  rw [(cwt_of f0).2] at b1
  have f10 : zOf (zbut [156, 157]) J_17 J := f1.1.tr f0
  have w10 : J_17 156 2 = cwt J s := by rw [w1]; show (0 : Int) + _ = _; omega
  have b10 : ∀ v, 0 ≤ v → v < 8 → J_17 157 v = ccn J v s := fun v x y => by rw [b1 v x y, z0 v x y]; omega
  refine tz_aload_n (pc := 20) dX4_weighBoth_20 rfl rfl ?_
  refine tz_iload_n (pc := 21) dX4_weighBoth_21 rfl rfl ?_
  refine tz_iconst (pc := 22) dX4_weighBoth_22 ?_
  refine tz_iconst (pc := 23) dX4_weighBoth_23 ?_
  refine tz_cV (pc := 24) (x_weighN hl n _ _ (by omega) m (C.of (fun c hc => f10 c (by simp [zbut]; omega))) ht ((f1.2 3 (by decide)).trans h3) (by rw [(cwt_of f10).1, w10]; omega) (fun v x y => by rw [(cwt_of f10).2, b10 v x y]; have := ccn_rg (v := v) C hs; have := ccn_rg (v := v) C ht; omega)) vl_X4_59 dX4_weighBoth_24 o_156 rfl rfl (Nat.le_of_ble_eq_true rfl) ⟨(Nat.le_of_ble_eq_true rfl), (Nat.le_of_ble_eq_true rfl)⟩ rfl rfl (Nat.le_of_ble_eq_true rfl) (Nat.le_of_ble_eq_true rfl) (fun r9 J_24 hq9 => ?_)
  obtain ⟨rfl, f2, w2, b2⟩ := hq9
  rw [(cwt_of f10).1, w10] at w2
  rw [(cwt_of f10).2] at b2
  exact tz_vret (pc := 27) dX4_weighBoth_27 rfl (Nat.le_of_ble_eq_true rfl) (Nat.le_of_ble_eq_true rfl) ⟨Nat.le_refl _, Nat.le_add_right _ _⟩ ⟨rfl, ⟨⟨f2.1.tr f10, fun k hk => (f2.2 k hk).trans ((f1.2 k hk).trans (zup_ne hk))⟩, w2, fun v x y => by rw [b2 v x y, b10 v x y]⟩⟩

set_option maxHeartbeats 4000000 in
set_option maxRecDepth 100000 in
theorem x_lacks {l : Launch} {G : tb_G} (hl : l.stackTraces = false) (n : Nat) (J : zJ)     : tz_Ok l G M_X4_lacksVariable 0 0 0 [.ref 156] n J (zqi (fun z J' => J = J' ∧ ((z = 1 ∧ ∃ v, (0 ≤ v ∧ v < 8) ∧ J 157 v < 0) ∨ (z = 0 ∧ ∀ v, 0 ≤ v → v < 8 → 0 ≤ J 157 v)))) zN := by
  refine tz_Ok.of hl (by decide +kernel) rfl (tb_c1 rfl) (Nat.le_of_ble_eq_true rfl) ?_
  show tz_At l G M_X4_lacksVariable (tb_rm 0 0 0) none (tb_ZM G 0 0 (zQ n 0 (zqi (fun z J' => J = J' ∧ ((z = 1 ∧ ∃ v, (0 ≤ v ∧ v < 8) ∧ J 157 v < 0) ∨ (z = 0 ∧ ∀ v, 0 ≤ v → v < 8 → 0 ≤ J 157 v))))) (zX n 0 zN)) 0 0 n J 0 [some (.ref 156), none] []
  refine tz_iconst (pc := 0) dX4_lacksVariable_0 ?_
  refine tz_istore_n (pc := 1) (L2 := [_, _]) dX4_lacksVariable_1 rfl (by decide) rfl ?_
  have loop2 : ∀ (f9 : Nat) (i : Int), ((8 - i).toNat) < f9 → (0 ≤ i ∧ i ≤ 8) → (∀ v, 0 ≤ v → v < i → 0 ≤ J 157 v) → tz_At l G M_X4_lacksVariable (tb_rm 0 0 0) none (tb_ZM G 0 0 (zQ n 0 (zqi (fun z J' => J = J' ∧ ((z = 1 ∧ ∃ v, (0 ≤ v ∧ v < 8) ∧ J 157 v < 0) ∨ (z = 0 ∧ ∀ v, 0 ≤ v → v < 8 → 0 ≤ J 157 v))))) (zX n 0 zN)) 0 0 n J 2 [some (.ref 156), some (zi i)] [] := by
    intro f9
    induction f9 with
    | zero => intro i hm9; exact absurd hm9 (Nat.not_lt_zero _)
    | succ f9 ih2 =>
      intro i hm2 hi hq
      refine tz_iload_n (pc := 2) dX4_lacksVariable_2 rfl rfl ?_
      refine tz_bipush (pc := 3) dX4_lacksVariable_3 (by decide) ?_
      refine tz_icmp_ge (pc := 5) (tgt := 25) dX4_lacksVariable_5 (by decide) (by omega) (by decide) (fun h_5 => ?_) (fun h_5 => ?_)
      · refine tz_iconst (pc := 25) dX4_lacksVariable_25 ?_
        exact tz_zret (pc := 26) (z := 0) dX4_lacksVariable_26 rfl (Or.inl rfl) (Nat.le_of_ble_eq_true rfl) (Nat.le_of_ble_eq_true rfl) ⟨Nat.le_refl _, Nat.le_add_right _ _⟩ ⟨_, rfl, (by decide), ⟨rfl, Or.inr ⟨rfl, fun v x y => hq v x (by omega)⟩⟩⟩
      · refine tz_aload_n (pc := 8) dX4_lacksVariable_8 rfl rfl ?_
        refine tz_fR (pc := 9) dX4_lacksVariable_9 fl_X4_9 r_156_1 ?_
        refine tz_iload_n (pc := 12) dX4_lacksVariable_12 rfl rfl ?_
        refine tz_aL (pc := 13) (z := i) (v := (J 157 i)) dX4_lacksVariable_13 a_157 rfl (by omega) rfl (fun r_13 => ?_)
        refine tz_if_ge (pc := 14) (tgt := 19) dX4_lacksVariable_14 (by decide) (by omega) (fun h_14 => ?_) (fun h_14 => ?_)
        · refine tz_iinc (pc := 19) (z := i + 1) (L2 := [_, _]) dX4_lacksVariable_19 rfl (by omega) rfl ?_
          refine tz_goto (pc := 22) (tgt := 2) dX4_lacksVariable_22 (by decide) ?_
          exact ih2 (i + 1) (by omega) (by omega) (fun v x y => (Decidable.em (v = i)).elim (fun e => by rw [e]; omega) (fun e => hq v x (by omega)))
        · refine tz_iconst (pc := 17) dX4_lacksVariable_17 ?_
          exact tz_zret (pc := 18) (z := 1) dX4_lacksVariable_18 rfl (Or.inr rfl) (Nat.le_of_ble_eq_true rfl) (Nat.le_of_ble_eq_true rfl) ⟨Nat.le_refl _, Nat.le_add_right _ _⟩ ⟨_, rfl, (by decide), ⟨rfl, Or.inl ⟨rfl, i, by omega, by omega⟩⟩⟩
  exact loop2 _ 0 (Nat.lt_succ_self _) (by omega) (fun v x y => by omega)

theorem CT.unl {J : zJ} {m s t : Int} (h : CT J m) (hs : 0 ≤ s ∧ s < m) (ht : 0 ≤ t ∧ t < m) (e : J 7 s = J 7 t) (hn : ¬ s = t) : ∃ i, (0 ≤ i ∧ i < J 8 s) ∧ ¬ J 9 (s * 3 + i) = J 9 (t * 3 + i) := by
  refine Classical.byContradiction (fun q => hn (h.1.1.2.2.2 s t hs.1 hs.2 ht.1 ht.2 ⟨e, fun i a c => ?_⟩))
  refine Classical.byContradiction (fun w => q ⟨i, ⟨a, ?_⟩, w⟩)
  rw [h.arh hs ht e, (h.2.1 t ht.1 ht.2).1.1]
  exact c
set_option maxHeartbeats 4000000 in
set_option maxRecDepth 100000 in
theorem x_unlike {l : Launch} {G : tb_G} (hl : l.stackTraces = false) (n : Nat) (J : zJ) (s : Int) (t : Int) (hr_s : -2147483648 ≤ s ∧ s < 2147483648) (hr_t : -2147483648 ≤ t ∧ t < 2147483648) (m : Int) (C : CT J m) (hs : 0 ≤ s ∧ s < m) (ht : 0 ≤ t ∧ t < m) (he : J 7 s = J 7 t) (hn : ¬ s = t) : tz_Ok l G M_X4_firstUnlike 1 0 0 [.ref 156, zi s, zi t] n J (zqi (fun z J' => J = J' ∧ fuB (J 8) (cag J) s t z)) zN := by
  refine tz_Ok.of hl (by decide +kernel) rfl (tb_c1 rfl) (Nat.le_of_ble_eq_true rfl) ?_
  show tz_At l G M_X4_firstUnlike (tb_rm 1 0 0) none (tb_ZM G 0 0 (zQ n 0 (zqi (fun z J' => J = J' ∧ fuB (J 8) (cag J) s t z))) (zX n 0 zN)) 0 0 n J 0 [some (.ref 156), some (zi s), some (zi t), none, none] []
  have hm := C.told
  have ha := C.ar hs.1 hs.2
  have h8 := C.arh hs ht he
  obtain ⟨i0, hi0, hn0⟩ := C.unl hs ht he hn
  refine tz_aload_n (pc := 0) dX4_firstUnlike_0 rfl rfl ?_
  refine tz_fR (pc := 1) dX4_firstUnlike_1 fl_X4_25 r_156_0 ?_
  refine tz_fR (pc := 4) dX4_firstUnlike_4 fl_X4_72 r_6_2 ?_
  refine tz_iload_n (pc := 7) dX4_firstUnlike_7 rfl rfl ?_
  refine tz_aL (pc := 8) (z := s) (v := (J 8 s)) dX4_firstUnlike_8 a_8 rfl (by omega) rfl (fun r_8 => ?_)
  refine tz_iconst (pc := 9) dX4_firstUnlike_9 ?_
  refine tz_isub (pc := 10) (v := (J 8 s) - 1) dX4_firstUnlike_10 rfl ?_
  refine tz_istore_n (pc := 11) (L2 := [_, _, _, _, _]) dX4_firstUnlike_11 rfl (by decide) rfl ?_
  refine tz_iconst (pc := 12) dX4_firstUnlike_12 ?_
  refine tz_istore (pc := 13) (L2 := [_, _, _, _, _]) dX4_firstUnlike_13 (by decide) rfl ?_
  have loop15 : ∀ (f9 : Nat) (i : Int), ((3 - i).toNat) < f9 → (0 ≤ i ∧ i ≤ J 8 s - 1) → (∀ j, 0 ≤ j → j < i → J 9 (s * 3 + j) = J 9 (t * 3 + j)) → tz_At l G M_X4_firstUnlike (tb_rm 1 0 0) none (tb_ZM G 0 0 (zQ n 0 (zqi (fun z J' => J = J' ∧ fuB (J 8) (cag J) s t z))) (zX n 0 zN)) 0 0 n J 15 [some (.ref 156), some (zi s), some (zi t), some (zi ((J 8 s) - 1)), some (zi i)] [] := by
    intro f9
    induction f9 with
    | zero => intro i hm9; exact absurd hm9 (Nat.not_lt_zero _)
    | succ f9 ih15 =>
      intro i hm15 hi hq
      refine tz_iload (pc := 15) dX4_firstUnlike_15 rfl ?_
      refine tz_iload_n (pc := 17) dX4_firstUnlike_17 rfl rfl ?_
      refine tz_icmp_ge (pc := 18) (tgt := 53) dX4_firstUnlike_18 (by decide) (by omega) (by omega) (fun h_18 => ?_) (fun h_18 => ?_)
      · refine tz_iload_n (pc := 53) dX4_firstUnlike_53 rfl rfl ?_
        refine tz_iconst (pc := 54) dX4_firstUnlike_54 ?_
        refine tz_mx (pc := 55) (v := J 8 s - 1) dX4_firstUnlike_55 ml_X4_75 (Nat.le_of_ble_eq_true rfl) (Nat.le_of_ble_eq_true rfl) (Nat.le_of_ble_eq_true rfl) (Nat.le_of_ble_eq_true rfl) (by omega) (by decide) (by split <;> omega) ?_
        exact tz_iret (pc := 58) (z := (J 8 s - 1)) dX4_firstUnlike_58 rfl (Nat.le_of_ble_eq_true rfl) (Nat.le_of_ble_eq_true rfl) ⟨Nat.le_refl _, Nat.le_add_right _ _⟩ ⟨_, rfl, (by omega), ⟨rfl, by omega, by show ¬ J 9 (s * 3 + (J 8 s - 1)) = J 9 (t * 3 + (J 8 s - 1)); (have e0 : i0 = J 8 s - 1 := Classical.byContradiction (fun q => hn0 (hq i0 hi0.1 (by omega)))); rw [← e0]; exact hn0, fun j x y => hq j x (by omega)⟩⟩
      · refine tz_aload_n (pc := 21) dX4_firstUnlike_21 rfl rfl ?_
        refine tz_fR (pc := 22) dX4_firstUnlike_22 fl_X4_25 r_156_0 ?_
        refine tz_iload_n (pc := 25) dX4_firstUnlike_25 rfl rfl ?_
        refine tz_iload (pc := 26) dX4_firstUnlike_26 rfl ?_
        refine tz_cV (pc := 28) (c_arg hl n _ _ _ (by omega) (by omega) (by omega)) vl_X4_50 dX4_firstUnlike_28 o_6 rfl rfl (Nat.le_of_ble_eq_true rfl) ⟨(Nat.le_of_ble_eq_true rfl), (Nat.le_of_ble_eq_true rfl)⟩ rfl rfl (Nat.le_of_ble_eq_true rfl) (Nat.le_of_ble_eq_true rfl) (fun r9 J_28 hq9 => ?_)
        obtain ⟨z_28, rfl, hz_28, rfl, rfl⟩ := hq9
        refine tz_aload_n (pc := 31) dX4_firstUnlike_31 rfl rfl ?_
        refine tz_fR (pc := 32) dX4_firstUnlike_32 fl_X4_25 r_156_0 ?_
        refine tz_iload_n (pc := 35) dX4_firstUnlike_35 rfl rfl ?_
        refine tz_iload (pc := 36) dX4_firstUnlike_36 rfl ?_
        refine tz_cV (pc := 38) (c_arg hl n _ _ _ (by omega) (by omega) (by omega)) vl_X4_50 dX4_firstUnlike_38 o_6 rfl rfl (Nat.le_of_ble_eq_true rfl) ⟨(Nat.le_of_ble_eq_true rfl), (Nat.le_of_ble_eq_true rfl)⟩ rfl rfl (Nat.le_of_ble_eq_true rfl) (Nat.le_of_ble_eq_true rfl) (fun r9 J_38 hq9 => ?_)
        obtain ⟨z_38, rfl, hz_38, rfl, rfl⟩ := hq9
        refine tz_icmp_eq (pc := 41) (tgt := 47) dX4_firstUnlike_41 (by decide) (by omega) (by omega) (fun h_41 => ?_) (fun h_41 => ?_)
        · refine tz_iinc (pc := 47) (z := i + 1) (L2 := [_, _, _, _, _]) dX4_firstUnlike_47 rfl (by omega) rfl ?_
          refine tz_goto (pc := 50) (tgt := 15) dX4_firstUnlike_50 (by decide) ?_
          exact ih15 (i + 1) (by omega) (by omega) (fun j x y => (Decidable.em (j = i)).elim (fun e => by rw [e]; omega) (fun e => hq j x (by omega)))
        · refine tz_iload (pc := 44) dX4_firstUnlike_44 rfl ?_
          exact tz_iret (pc := 46) (z := i) dX4_firstUnlike_46 rfl (Nat.le_of_ble_eq_true rfl) (Nat.le_of_ble_eq_true rfl) ⟨Nat.le_refl _, Nat.le_add_right _ _⟩ ⟨_, rfl, (by omega), ⟨rfl, by omega, by show ¬ J 9 (s * 3 + i) = J 9 (t * 3 + i); omega, hq⟩⟩
  exact loop15 _ 0 (Nat.lt_succ_self _) (by omega) (fun j x y => by omega)

theorem gtP_rf {cn : Int → Int → Int} {wt hd ar : Int → Int} {ag : Int → Int → Int} {k : Nat} {s : Int} : ¬ gtP cn wt hd ar ag k s s := fun h => by
  cases k with
  | zero => exact h
  | succ k => exact h.1 rfl
set_option maxHeartbeats 4000000 in
set_option maxRecDepth 100000 in
theorem x_greater9 {l : Launch} {G : tb_G} (hl : l.stackTraces = false) (n : Nat) (J : zJ) (s : Int) (t : Int) (hr_s : -2147483648 ≤ s ∧ s < 2147483648) (hr_t : -2147483648 ≤ t ∧ t < 2147483648) (m : Int) (C : CT J m) (hs : 0 ≤ s ∧ s < m) (ht : 0 ≤ t ∧ t < m) (h3 : J 156 3 = -1) : tz_Ok l G M_X4_isGreater 12 0 0 [.ref 156, zi s, zi t] n J (zqi (fun z J' => ((z = 1 ∧ cgt J 6 s t) ∨ (z = 0 ∧ ¬ cgt J 6 s t)) ∧ (zOf (zbut [156, 157]) J' J ∧ ∀ k, ¬ k = 2 → J' 156 k = J 156 k))) zN := by
  refine tz_Ok.of hl (by decide +kernel) rfl (tb_c1 rfl) (Nat.le_of_ble_eq_true rfl) ?_
  show tz_At l G M_X4_isGreater (tb_rm 12 0 0) none (tb_ZM G 0 0 (zQ n 0 (zqi (fun z J' => ((z = 1 ∧ cgt J 6 s t) ∨ (z = 0 ∧ ¬ cgt J 6 s t)) ∧ (zOf (zbut [156, 157]) J' J ∧ ∀ k, ¬ k = 2 → J' 156 k = J 156 k)))) (zX n 0 zN)) 0 0 n J 0 [some (.ref 156), some (zi s), some (zi t), none, none, none, none] []
  have hm := C.told
  have hn0 := (C.nums hs.1 hs.2).2.2
  refine tz_iload_n (pc := 0) dX4_isGreater_0 rfl rfl ?_
  refine tz_istore_n (pc := 1) (L2 := [_, _, _, _, _, _, _]) dX4_isGreater_1 rfl (by decide) rfl ?_
  refine tz_iload_n (pc := 2) dX4_isGreater_2 rfl rfl ?_
  refine tz_istore (pc := 3) (L2 := [_, _, _, _, _, _, _]) dX4_isGreater_3 (by decide) rfl ?_
  refine tz_iconst (pc := 5) dX4_isGreater_5 ?_
  refine tz_istore (pc := 6) (L2 := [_, _, _, _, _, _, _]) dX4_isGreater_6 (by decide) rfl ?_
  have loop8 : ∀ (f9 : Nat) (a : Int) (b : Int) (k : Int) (d6 : Option Value) (J1 : zJ), ((6 - k).toNat) < f9 → (0 ≤ k ∧ k ≤ 6) → (0 ≤ a ∧ a < m) → (0 ≤ b ∧ b < m) → (J 12 a ≤ 6 - k) → (zOf (zbut [156, 157]) J1 J ∧ ∀ k, ¬ k = 2 → J1 156 k = J 156 k) → (cgt J 6 s t ↔ cgt J (6 - k).toNat a b) → tz_At l G M_X4_isGreater (tb_rm 12 0 0) none (tb_ZM G 0 0 (zQ n 0 (zqi (fun z J' => ((z = 1 ∧ cgt J 6 s t) ∨ (z = 0 ∧ ¬ cgt J 6 s t)) ∧ (zOf (zbut [156, 157]) J' J ∧ ∀ k, ¬ k = 2 → J' 156 k = J 156 k)))) (zX n 0 zN)) 0 0 n J1 8 [some (.ref 156), some (zi s), some (zi t), some (zi a), some (zi b), some (zi k), d6] [] := by
    intro f9
    induction f9 with
    | zero => intro a b k d6 J1 hm9; exact absurd hm9 (Nat.not_lt_zero _)
    | succ f9 ih8 =>
      intro a b k d6 J1 hm8 hk ha hb hd fr hg
      refine tz_iload (pc := 8) dX4_isGreater_8 rfl ?_
      refine tz_bipush (pc := 10) dX4_isGreater_10 (by decide) ?_
      refine tz_icmp_ge (pc := 12) (tgt := 167) dX4_isGreater_12 (by decide) (by omega) (by decide) (fun h_12 => ?_) (fun h_12 => ?_)
      · refine tz_iconst (pc := 167) dX4_isGreater_167 ?_
        exact tz_zret (pc := 168) (z := 0) dX4_isGreater_168 rfl (Or.inl rfl) (Nat.le_of_ble_eq_true rfl) (Nat.le_of_ble_eq_true rfl) ⟨Nat.le_refl _, Nat.le_add_right _ _⟩ ⟨_, rfl, (by decide), ⟨Or.inr ⟨rfl, fun e => by have e1 := hg.1 e; rw [show (6 - k).toNat = 0 by omega] at e1; exact e1⟩, fr⟩⟩
      · refine tz_iload_n (pc := 15) dX4_isGreater_15 rfl rfl ?_
        refine tz_iload (pc := 16) dX4_isGreater_16 rfl ?_
        refine tz_icmp_eq (pc := 18) (tgt := 167) dX4_isGreater_18 (by decide) (by omega) (by omega) (fun h_18 => ?_) (fun h_18 => ?_)
        · refine tz_iconst (pc := 167) dX4_isGreater_167 ?_
          exact tz_zret (pc := 168) (z := 0) dX4_isGreater_168 rfl (Or.inl rfl) (Nat.le_of_ble_eq_true rfl) (Nat.le_of_ble_eq_true rfl) ⟨Nat.le_refl _, Nat.le_add_right _ _⟩ ⟨_, rfl, (by decide), ⟨Or.inr ⟨rfl, fun e => by have e1 := hg.1 e; rw [show a = b by omega] at e1; exact gtP_rf e1⟩, fr⟩⟩
        · refine tz_aload_n (pc := 21) dX4_isGreater_21 rfl rfl ?_
          refine tz_iload_n (pc := 22) dX4_isGreater_22 rfl rfl ?_
          refine tz_iload (pc := 23) dX4_isGreater_23 rfl ?_
          have ne9 : ¬ a = b := by omega
          have hn9 := (C.nums ha.1 ha.2).2.2
          have hk9 : (6 - k).toNat = (5 - k).toNat + 1 := by omega
          refine tz_cV (pc := 25) (x_weighBoth hl n _ _ _ (by omega) (by omega) m (C.of (fun c hc => fr.1 c (by simp [zbut]; omega))) ha hb ((fr.2 3 (by decide)).trans h3)) vl_X4_29 dX4_isGreater_25 o_156 rfl rfl (Nat.le_of_ble_eq_true rfl) ⟨(Nat.le_of_ble_eq_true rfl), (Nat.le_of_ble_eq_true rfl)⟩ rfl rfl (Nat.le_of_ble_eq_true rfl) (Nat.le_of_ble_eq_true rfl) (fun r9 J_25 hq9 => ?_)
          obtain ⟨rfl, f2, w2, b2⟩ := hq9
          rw [(cwt_of fr.1).1] at w2
          rw [(cwt_of fr.1).2] at b2
          have f20 : zOf (zbut [156, 157]) J_25 J ∧ ∀ k, ¬ k = 2 → J_25 156 k = J 156 k := ⟨f2.1.tr fr.1, fun k hk => (f2.2 k hk).trans (fr.2 k hk)⟩
          have e7 : J_25 7 = J 7 := f20.1 7 rfl
          have e9 : J_25 9 = J 9 := f20.1 9 rfl
          have hA := C.ar ha.1 ha.2
          have hAb := C.ar hb.1 hb.2
          refine tz_aload_n (pc := 28) dX4_isGreater_28 rfl rfl ?_
          refine tz_cV (pc := 29) (x_lacks hl n _) vl_X4_33 dX4_isGreater_29 o_156 rfl rfl (Nat.le_of_ble_eq_true rfl) ⟨(Nat.le_of_ble_eq_true rfl), (Nat.le_of_ble_eq_true rfl)⟩ rfl rfl (Nat.le_of_ble_eq_true rfl) (Nat.le_of_ble_eq_true rfl) (fun r9 J_29 hq9 => ?_)
          obtain ⟨zl9, rfl, hz_29, rfl, hz⟩ := hq9
          rcases hz with ⟨rfl, lk9⟩ | ⟨rfl, lk8⟩
          · refine tz_if_neT (pc := 32) (tgt := 42) (by decide) dX4_isGreater_32 (by decide) (by decide) ?_
            refine tz_iconst (pc := 42) dX4_isGreater_42 ?_
            exact tz_zret (pc := 43) (z := 0) dX4_isGreater_43 rfl (Or.inl rfl) (Nat.le_of_ble_eq_true rfl) (Nat.le_of_ble_eq_true rfl) ⟨Nat.le_refl _, Nat.le_add_right _ _⟩ ⟨_, rfl, (by decide), ⟨Or.inr ⟨rfl, fun e => by have e1 := hg.1 e; rw [hk9] at e1; first | (obtain ⟨v, q1, q2⟩ := lk9; have q3 := e1.2.1 v q1.1 q1.2; have q4 := b2 v q1.1 q1.2; omega) | (rcases e1.2.2 with q | q; omega; have := q.1; omega)⟩, f20⟩⟩
          · refine tz_if_neF (pc := 32) (tgt := 42) (by decide) dX4_isGreater_32 (by decide) (by decide) ?_
            have hv9 : ∀ v, 0 ≤ v → v < 8 → ccn J v b ≤ ccn J v a := fun v x y => by have q1 := lk8 v x y; have q2 := b2 v x y; omega
            refine tz_aload_n (pc := 35) dX4_isGreater_35 rfl rfl ?_
            refine tz_fI (pc := 36) (kz := 2) (v := (J_25 156 2)) dX4_isGreater_36 fl_X4_15 i_156_2 rfl rfl (fun r_36 => ?_)
            refine tz_if_ge (pc := 39) (tgt := 44) dX4_isGreater_39 (by decide) (by omega) (fun h_39 => ?_) (fun h_39 => ?_)
            · refine tz_aload_n (pc := 44) dX4_isGreater_44 rfl rfl ?_
              refine tz_fI (pc := 45) (kz := 2) (v := (J_25 156 2)) dX4_isGreater_45 fl_X4_15 i_156_2 rfl rfl (fun r_45 => ?_)
              refine tz_if_gt (pc := 48) (tgt := 63) dX4_isGreater_48 (by decide) (by omega) (fun h_48 => ?_) (fun h_48 => ?_)
              · refine tz_iconst (pc := 63) dX4_isGreater_63 ?_
                exact tz_zret (pc := 64) (z := 1) dX4_isGreater_64 rfl (Or.inr rfl) (Nat.le_of_ble_eq_true rfl) (Nat.le_of_ble_eq_true rfl) ⟨Nat.le_refl _, Nat.le_add_right _ _⟩ ⟨_, rfl, (by decide), ⟨Or.inl ⟨rfl, hg.2 (by rw [hk9]; exact ⟨ne9, hv9, by first | exact Or.inl (by omega) | exact Or.inr ⟨by omega, Or.inl (by omega)⟩⟩)⟩, f20⟩⟩
              · refine tz_aload_n (pc := 51) dX4_isGreater_51 rfl rfl ?_
                refine tz_fR (pc := 52) dX4_isGreater_52 fl_X4_25 r_156_0 ?_
                refine tz_iload (pc := 55) dX4_isGreater_55 rfl ?_
                refine tz_cV (pc := 57) (c_isVar hl n _ _ (by omega) (by omega)) vl_X4_37 dX4_isGreater_57 o_6 rfl rfl (Nat.le_of_ble_eq_true rfl) ⟨(Nat.le_of_ble_eq_true rfl), (Nat.le_of_ble_eq_true rfl)⟩ rfl rfl (Nat.le_of_ble_eq_true rfl) (Nat.le_of_ble_eq_true rfl) (fun r9 J_57 hq9 => ?_)
                obtain ⟨z_57, rfl, hz_57, rfl, hv_57⟩ := hq9
                rw [e7] at hv_57
                obtain rfl : (if J 7 b < 0 then 1 else 0) = z_57 := hv_57
                by_cases hw_60 : J 7 b < 0
                · rw [show (if J 7 b < 0 then 1 else 0 : Int) = 1 from if_pos hw_60]
                  refine tz_if_eqF (pc := 60) (tgt := 65) (by decide) dX4_isGreater_60 (by decide) (by decide) ?_
                  refine tz_iconst (pc := 63) dX4_isGreater_63 ?_
                  exact tz_zret (pc := 64) (z := 1) dX4_isGreater_64 rfl (Or.inr rfl) (Nat.le_of_ble_eq_true rfl) (Nat.le_of_ble_eq_true rfl) ⟨Nat.le_refl _, Nat.le_add_right _ _⟩ ⟨_, rfl, (by decide), ⟨Or.inl ⟨rfl, hg.2 (by rw [hk9]; exact ⟨ne9, hv9, by first | exact Or.inl (by omega) | exact Or.inr ⟨by omega, Or.inl (by omega)⟩⟩)⟩, f20⟩⟩
                · rw [show (if J 7 b < 0 then 1 else 0 : Int) = 0 from if_neg hw_60]
                  refine tz_if_eqT (pc := 60) (tgt := 65) (by decide) dX4_isGreater_60 (by decide) (by decide) ?_
                  refine tz_aload_n (pc := 65) dX4_isGreater_65 rfl rfl ?_
                  refine tz_fR (pc := 66) dX4_isGreater_66 fl_X4_25 r_156_0 ?_
                  refine tz_iload_n (pc := 69) dX4_isGreater_69 rfl rfl ?_
                  refine tz_cV (pc := 70) (c_isVar hl n _ _ (by omega) (by omega)) vl_X4_37 dX4_isGreater_70 o_6 rfl rfl (Nat.le_of_ble_eq_true rfl) ⟨(Nat.le_of_ble_eq_true rfl), (Nat.le_of_ble_eq_true rfl)⟩ rfl rfl (Nat.le_of_ble_eq_true rfl) (Nat.le_of_ble_eq_true rfl) (fun r9 J_70 hq9 => ?_)
                  obtain ⟨z_70, rfl, hz_70, rfl, hv_70⟩ := hq9
                  rw [e7] at hv_70
                  obtain rfl : (if J 7 a < 0 then 1 else 0) = z_70 := hv_70
                  by_cases hw_73 : J 7 a < 0
                  · rw [show (if J 7 a < 0 then 1 else 0 : Int) = 1 from if_pos hw_73]
                    refine tz_if_eqF (pc := 73) (tgt := 78) (by decide) dX4_isGreater_73 (by decide) (by decide) ?_
                    refine tz_iconst (pc := 76) dX4_isGreater_76 ?_
                    exact tz_zret (pc := 77) (z := 0) dX4_isGreater_77 rfl (Or.inl rfl) (Nat.le_of_ble_eq_true rfl) (Nat.le_of_ble_eq_true rfl) ⟨Nat.le_refl _, Nat.le_add_right _ _⟩ ⟨_, rfl, (by decide), ⟨Or.inr ⟨rfl, fun e => by have e1 := hg.1 e; rw [hk9] at e1; rcases e1.2.2 with q | ⟨_, q | ⟨q1, q2, q3⟩⟩; omega; omega; omega⟩, f20⟩⟩
                  · rw [show (if J 7 a < 0 then 1 else 0 : Int) = 0 from if_neg hw_73]
                    refine tz_if_eqT (pc := 73) (tgt := 78) (by decide) dX4_isGreater_73 (by decide) (by decide) ?_
                    refine tz_aload_n (pc := 78) dX4_isGreater_78 rfl rfl ?_
                    refine tz_fR (pc := 79) dX4_isGreater_79 fl_X4_25 r_156_0 ?_
                    refine tz_fR (pc := 82) dX4_isGreater_82 fl_X4_43 r_6_1 ?_
                    refine tz_iload_n (pc := 85) dX4_isGreater_85 rfl rfl ?_
                    refine tz_aL (pc := 86) (z := a) (v := (J 7 a)) dX4_isGreater_86 a_7 rfl (by omega) (Eq.trans (congrFun (f2.1 7 rfl) a) (Eq.trans (congrFun (fr.1 7 rfl) a) rfl)) (fun r_86 => ?_)
                    refine tz_aload_n (pc := 87) dX4_isGreater_87 rfl rfl ?_
                    refine tz_fR (pc := 88) dX4_isGreater_88 fl_X4_25 r_156_0 ?_
                    refine tz_fR (pc := 91) dX4_isGreater_91 fl_X4_43 r_6_1 ?_
                    refine tz_iload (pc := 94) dX4_isGreater_94 rfl ?_
                    refine tz_aL (pc := 96) (z := b) (v := (J 7 b)) dX4_isGreater_96 a_7 rfl (by omega) (Eq.trans (congrFun (f2.1 7 rfl) b) (Eq.trans (congrFun (fr.1 7 rfl) b) rfl)) (fun r_96 => ?_)
                    refine tz_icmp_eq (pc := 97) (tgt := 128) dX4_isGreater_97 (by decide) (by omega) (by omega) (fun h_97 => ?_) (fun h_97 => ?_)
                    · refine tz_aload_n (pc := 128) dX4_isGreater_128 rfl rfl ?_
                      refine tz_iload_n (pc := 129) dX4_isGreater_129 rfl rfl ?_
                      refine tz_iload (pc := 130) dX4_isGreater_130 rfl ?_
                      have C2 : CT J_25 m := C.of (fun c hc => f20.1 c (by simp [zbut]; omega))
                      refine tz_cV (pc := 132) (x_unlike hl n _ _ _ (by omega) (by omega) m C2 ha hb (by rw [e7]; omega) ne9) vl_X4_46 dX4_isGreater_132 o_156 rfl rfl (Nat.le_of_ble_eq_true rfl) ⟨(Nat.le_of_ble_eq_true rfl), (Nat.le_of_ble_eq_true rfl)⟩ rfl rfl (Nat.le_of_ble_eq_true rfl) (Nat.le_of_ble_eq_true rfl) (fun r9 J_132 hq9 => ?_)
                      obtain ⟨z_132, rfl, hz_132, rfl, fu8⟩ := hq9
                      have fu9 : fuB (J 8) (cag J) a b z_132 := by have := fu8; unfold cag at this ⊢; rw [f20.1 8 rfl, e9] at this; exact this
                      have e8 := C.arh ha hb (by omega)
                      have fi9 := fu9.1
                      have g1 := C.arg (t := a) (i := z_132) (by omega) (by omega) (by omega) (by omega)
                      have g2 := (C.arg (t := b) (i := z_132) (by omega) (by omega) (by omega) (by omega)).1
                      refine tz_istore (pc := 135) (L2 := [_, _, _, _, _, _, _]) dX4_isGreater_135 (by decide) rfl ?_
                      refine tz_aload_n (pc := 137) dX4_isGreater_137 rfl rfl ?_
                      refine tz_fR (pc := 138) dX4_isGreater_138 fl_X4_25 r_156_0 ?_
                      refine tz_iload_n (pc := 141) dX4_isGreater_141 rfl rfl ?_
                      refine tz_iload (pc := 142) dX4_isGreater_142 rfl ?_
                      refine tz_cV (pc := 144) (c_arg hl n _ _ _ (by omega) (by omega) (by omega)) vl_X4_50 dX4_isGreater_144 o_6 rfl rfl (Nat.le_of_ble_eq_true rfl) ⟨(Nat.le_of_ble_eq_true rfl), (Nat.le_of_ble_eq_true rfl)⟩ rfl rfl (Nat.le_of_ble_eq_true rfl) (Nat.le_of_ble_eq_true rfl) (fun r9 J_144 hq9 => ?_)
                      obtain ⟨z_144, rfl, hz_144, rfl, hv_144⟩ := hq9
                      rw [e9] at hv_144
                      obtain rfl : J 9 (a * 3 + z_132) = z_144 := hv_144
                      refine tz_istore_n (pc := 147) (L2 := [_, _, _, _, _, _, _]) dX4_isGreater_147 rfl (by decide) rfl ?_
                      refine tz_aload_n (pc := 148) dX4_isGreater_148 rfl rfl ?_
                      refine tz_fR (pc := 149) dX4_isGreater_149 fl_X4_25 r_156_0 ?_
                      refine tz_iload (pc := 152) dX4_isGreater_152 rfl ?_
                      refine tz_iload (pc := 154) dX4_isGreater_154 rfl ?_
                      refine tz_cV (pc := 156) (c_arg hl n _ _ _ (by omega) (by omega) (by omega)) vl_X4_50 dX4_isGreater_156 o_6 rfl rfl (Nat.le_of_ble_eq_true rfl) ⟨(Nat.le_of_ble_eq_true rfl), (Nat.le_of_ble_eq_true rfl)⟩ rfl rfl (Nat.le_of_ble_eq_true rfl) (Nat.le_of_ble_eq_true rfl) (fun r9 J_156 hq9 => ?_)
                      obtain ⟨z_156, rfl, hz_156, rfl, hv_156⟩ := hq9
                      rw [e9] at hv_156
                      obtain rfl : J 9 (b * 3 + z_132) = z_156 := hv_156
                      refine tz_istore (pc := 159) (L2 := [_, _, _, _, _, _, _]) dX4_isGreater_159 (by decide) rfl ?_
                      refine tz_iinc (pc := 161) (z := k + 1) (L2 := [_, _, _, _, _, _, _]) dX4_isGreater_161 rfl (by omega) rfl ?_
                      refine tz_goto (pc := 164) (tgt := 8) dX4_isGreater_164 (by decide) ?_
                      exact ih8 _ _ (k + 1) _ _ (by omega) (by omega) (by omega) (by omega) (by omega) f20 (hg.trans (by rw [hk9, show (6 - (k + 1)).toNat = (5 - k).toNat by omega]; constructor; (rintro ⟨q1, q2, q3⟩; rcases q3 with q | ⟨_, q | ⟨q4, q5, q6⟩⟩; omega; omega; (rcases q6 with q7 | ⟨q7, i2, q8, q9⟩; omega; (have ei := fuB_u q8 fu9; subst ei; exact q9))); (intro q; exact ⟨ne9, hv9, Or.inr ⟨by omega, Or.inr ⟨by omega, by omega, Or.inr ⟨by omega, z_132, fu9, q⟩⟩⟩⟩)))
                    · refine tz_aload_n (pc := 100) dX4_isGreater_100 rfl rfl ?_
                      refine tz_fR (pc := 101) dX4_isGreater_101 fl_X4_25 r_156_0 ?_
                      refine tz_fR (pc := 104) dX4_isGreater_104 fl_X4_43 r_6_1 ?_
                      refine tz_iload_n (pc := 107) dX4_isGreater_107 rfl rfl ?_
                      refine tz_aL (pc := 108) (z := a) (v := (J 7 a)) dX4_isGreater_108 a_7 rfl (by omega) (Eq.trans (congrFun (f2.1 7 rfl) a) (Eq.trans (congrFun (fr.1 7 rfl) a) rfl)) (fun r_108 => ?_)
                      refine tz_aload_n (pc := 109) dX4_isGreater_109 rfl rfl ?_
                      refine tz_fR (pc := 110) dX4_isGreater_110 fl_X4_25 r_156_0 ?_
                      refine tz_fR (pc := 113) dX4_isGreater_113 fl_X4_43 r_6_1 ?_
                      refine tz_iload (pc := 116) dX4_isGreater_116 rfl ?_
                      refine tz_aL (pc := 118) (z := b) (v := (J 7 b)) dX4_isGreater_118 a_7 rfl (by omega) (Eq.trans (congrFun (f2.1 7 rfl) b) (Eq.trans (congrFun (fr.1 7 rfl) b) rfl)) (fun r_118 => ?_)
                      refine tz_icmp_le (pc := 119) (tgt := 126) dX4_isGreater_119 (by decide) (by omega) (by omega) (fun h_119 => ?_) (fun h_119 => ?_)
                      · refine tz_iconst (pc := 126) dX4_isGreater_126 ?_
                        exact tz_zret (pc := 127) (z := 0) dX4_isGreater_127 rfl (Or.inl rfl) (Nat.le_of_ble_eq_true rfl) (Nat.le_of_ble_eq_true rfl) ⟨Nat.le_refl _, Nat.le_add_right _ _⟩ ⟨_, rfl, (by decide), ⟨Or.inr ⟨rfl, fun e => by have e1 := hg.1 e; rw [hk9] at e1; rcases e1.2.2 with q | ⟨_, q | ⟨q1, q2, q3⟩⟩; omega; omega; (rcases q3 with q4 | q4; omega; have := q4.1; omega)⟩, f20⟩⟩
                      · refine tz_iconst (pc := 122) dX4_isGreater_122 ?_
                        refine tz_goto (pc := 123) (tgt := 127) dX4_isGreater_123 (by decide) ?_
                        exact tz_zret (pc := 127) (z := 1) dX4_isGreater_127 rfl (Or.inr rfl) (Nat.le_of_ble_eq_true rfl) (Nat.le_of_ble_eq_true rfl) ⟨Nat.le_refl _, Nat.le_add_right _ _⟩ ⟨_, rfl, (by decide), ⟨Or.inl ⟨rfl, hg.2 (by rw [hk9]; exact ⟨ne9, hv9, Or.inr ⟨by omega, Or.inr ⟨by omega, by omega, Or.inl (by omega)⟩⟩⟩)⟩, f20⟩⟩
            · refine tz_iconst (pc := 42) dX4_isGreater_42 ?_
              exact tz_zret (pc := 43) (z := 0) dX4_isGreater_43 rfl (Or.inl rfl) (Nat.le_of_ble_eq_true rfl) (Nat.le_of_ble_eq_true rfl) ⟨Nat.le_refl _, Nat.le_add_right _ _⟩ ⟨_, rfl, (by decide), ⟨Or.inr ⟨rfl, fun e => by have e1 := hg.1 e; rw [hk9] at e1; first | (obtain ⟨v, q1, q2⟩ := lk9; have q3 := e1.2.1 v q1.1 q1.2; have q4 := b2 v q1.1 q1.2; omega) | (rcases e1.2.2 with q | q; omega; have := q.1; omega)⟩, f20⟩⟩
  exact loop8 _ _ _ 0 none _ (Nat.lt_succ_self _) (by omega) hs ht (by omega) ⟨zOf.rf, fun _ _ => rfl⟩ Iff.rfl

